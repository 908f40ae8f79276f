section
-- ===== PART A: goes FIRST, ahead of the names: the tables' words, and 'selects' of the private methods out of them =====
/-- a private method of a class that the tables say can be made, by its rows of tables_1 -/
def lw_okq (q : MethodName × Nat) : Prop := (q.1.cls ≠ "java/lang/invoke/MethodHandle" ∧ q.1.cls ≠ "java/lang/invoke/VarHandle") ∧ Cond.instantiable q.1.cls q.2 ∈ tables_1 ∧ Cond.privateMethod q.1 ∈ tables_1 ∧ Cond.instanceMethod q.1 ∈ tables_1
theorem lw_p0 : lw_okq (⟨"TableMachine", "canAskFor", "(II)Z"⟩, 6) := ⟨⟨by decide +kernel, by decide +kernel⟩, List.mem_of_getElem? (i := 22) (by decide +kernel), List.mem_of_getElem? (i := 294) (by decide +kernel), List.mem_of_getElem? (i := 295) (by decide +kernel)⟩
theorem lw_p1 : lw_okq (⟨"java/lang/Throwable", "fillInStackTrace", "(I)Ljava/lang/Throwable;"⟩, 6) := ⟨⟨by decide +kernel, by decide +kernel⟩, List.mem_of_getElem? (i := 376) (by decide +kernel), List.mem_of_getElem? (i := 374) (by decide +kernel), List.mem_of_getElem? (i := 375) (by decide +kernel)⟩
theorem lw_p2 : lw_okq (⟨"TableMachine", "requireTable", "(I)V"⟩, 6) := ⟨⟨by decide +kernel, by decide +kernel⟩, List.mem_of_getElem? (i := 22) (by decide +kernel), List.mem_of_getElem? (i := 433) (by decide +kernel), List.mem_of_getElem? (i := 434) (by decide +kernel)⟩
theorem lw_p3 : lw_okq (⟨"TableMachine$Store", "isAt", "(IIJ)Z"⟩, 6) := ⟨⟨by decide +kernel, by decide +kernel⟩, List.mem_of_getElem? (i := 36) (by decide +kernel), List.mem_of_getElem? (i := 452) (by decide +kernel), List.mem_of_getElem? (i := 453) (by decide +kernel)⟩
theorem lw_p4 : lw_okq (⟨"TableMachine", "requireCell", "(IJI)I"⟩, 6) := ⟨⟨by decide +kernel, by decide +kernel⟩, List.mem_of_getElem? (i := 22) (by decide +kernel), List.mem_of_getElem? (i := 519) (by decide +kernel), List.mem_of_getElem? (i := 520) (by decide +kernel)⟩
theorem lw_p5 : lw_okq (⟨"TableMachine$Machine", "reset", "()V"⟩, 6) := ⟨⟨by decide +kernel, by decide +kernel⟩, List.mem_of_getElem? (i := 30) (by decide +kernel), List.mem_of_getElem? (i := 620) (by decide +kernel), List.mem_of_getElem? (i := 621) (by decide +kernel)⟩
theorem lw_p6 : lw_okq (⟨"TableMachine$Machine", "useCursor", "(II)I"⟩, 6) := ⟨⟨by decide +kernel, by decide +kernel⟩, List.mem_of_getElem? (i := 30) (by decide +kernel), List.mem_of_getElem? (i := 641) (by decide +kernel), List.mem_of_getElem? (i := 642) (by decide +kernel)⟩
theorem lw_p7 : lw_okq (⟨"TableMachine$Machine", "end", "(I)I"⟩, 6) := ⟨⟨by decide +kernel, by decide +kernel⟩, List.mem_of_getElem? (i := 30) (by decide +kernel), List.mem_of_getElem? (i := 649) (by decide +kernel), List.mem_of_getElem? (i := 650) (by decide +kernel)⟩
theorem lw_p8 : lw_okq (⟨"TableMachine$Machine", "moveTo", "(LTableMachine$Cursor;I)Z"⟩, 6) := ⟨⟨by decide +kernel, by decide +kernel⟩, List.mem_of_getElem? (i := 30) (by decide +kernel), List.mem_of_getElem? (i := 653) (by decide +kernel), List.mem_of_getElem? (i := 654) (by decide +kernel)⟩
theorem lw_p9 : lw_okq (⟨"TableMachine$Machine", "advance", "(LTableMachine$Cursor;)Z"⟩, 6) := ⟨⟨by decide +kernel, by decide +kernel⟩, List.mem_of_getElem? (i := 30) (by decide +kernel), List.mem_of_getElem? (i := 659) (by decide +kernel), List.mem_of_getElem? (i := 660) (by decide +kernel)⟩
theorem lw_p10 : lw_okq (⟨"TableMachine$Machine", "readColumn", "(LTableMachine$Cursor;II)V"⟩, 6) := ⟨⟨by decide +kernel, by decide +kernel⟩, List.mem_of_getElem? (i := 30) (by decide +kernel), List.mem_of_getElem? (i := 664) (by decide +kernel), List.mem_of_getElem? (i := 665) (by decide +kernel)⟩
theorem lw_p11 : lw_okq (⟨"TableMachine$Machine", "slotAt", "(LTableMachine$Cursor;)I"⟩, 6) := ⟨⟨by decide +kernel, by decide +kernel⟩, List.mem_of_getElem? (i := 30) (by decide +kernel), List.mem_of_getElem? (i := 668) (by decide +kernel), List.mem_of_getElem? (i := 669) (by decide +kernel)⟩
theorem lw_p12 : lw_okq (⟨"TableMachine$Machine", "readKey", "(LTableMachine$Cursor;I)V"⟩, 6) := ⟨⟨by decide +kernel, by decide +kernel⟩, List.mem_of_getElem? (i := 30) (by decide +kernel), List.mem_of_getElem? (i := 676) (by decide +kernel), List.mem_of_getElem? (i := 677) (by decide +kernel)⟩
theorem lw_p13 : lw_okq (⟨"TableMachine$Machine", "seek", "(LTableMachine$Cursor;I)Z"⟩, 6) := ⟨⟨by decide +kernel, by decide +kernel⟩, List.mem_of_getElem? (i := 30) (by decide +kernel), List.mem_of_getElem? (i := 681) (by decide +kernel), List.mem_of_getElem? (i := 682) (by decide +kernel)⟩
theorem lw_p14 : lw_okq (⟨"TableMachine$Machine", "bringRow", "(LTableMachine$Cursor;I)Z"⟩, 6) := ⟨⟨by decide +kernel, by decide +kernel⟩, List.mem_of_getElem? (i := 30) (by decide +kernel), List.mem_of_getElem? (i := 687) (by decide +kernel), List.mem_of_getElem? (i := 688) (by decide +kernel)⟩
theorem lw_p15 : lw_okq (⟨"TableMachine$Machine", "dropRow", "(LTableMachine$Cursor;)V"⟩, 6) := ⟨⟨by decide +kernel, by decide +kernel⟩, List.mem_of_getElem? (i := 30) (by decide +kernel), List.mem_of_getElem? (i := 692) (by decide +kernel), List.mem_of_getElem? (i := 693) (by decide +kernel)⟩
def lw_privs_1 : List (MethodName × Nat) := [(⟨"TableMachine", "canAskFor", "(II)Z"⟩, 6), (⟨"java/lang/Throwable", "fillInStackTrace", "(I)Ljava/lang/Throwable;"⟩, 6), (⟨"TableMachine", "requireTable", "(I)V"⟩, 6), (⟨"TableMachine$Store", "isAt", "(IIJ)Z"⟩, 6), (⟨"TableMachine", "requireCell", "(IJI)I"⟩, 6), (⟨"TableMachine$Machine", "reset", "()V"⟩, 6), (⟨"TableMachine$Machine", "useCursor", "(II)I"⟩, 6), (⟨"TableMachine$Machine", "end", "(I)I"⟩, 6), (⟨"TableMachine$Machine", "moveTo", "(LTableMachine$Cursor;I)Z"⟩, 6), (⟨"TableMachine$Machine", "advance", "(LTableMachine$Cursor;)Z"⟩, 6), (⟨"TableMachine$Machine", "readColumn", "(LTableMachine$Cursor;II)V"⟩, 6), (⟨"TableMachine$Machine", "slotAt", "(LTableMachine$Cursor;)I"⟩, 6), (⟨"TableMachine$Machine", "readKey", "(LTableMachine$Cursor;I)V"⟩, 6), (⟨"TableMachine$Machine", "seek", "(LTableMachine$Cursor;I)Z"⟩, 6), (⟨"TableMachine$Machine", "bringRow", "(LTableMachine$Cursor;I)Z"⟩, 6), (⟨"TableMachine$Machine", "dropRow", "(LTableMachine$Cursor;)V"⟩, 6)]
theorem lw_r1 : ∀ q ∈ lw_privs_1, lw_okq q := List.forall_mem_cons.mpr ⟨lw_p0, List.forall_mem_cons.mpr ⟨lw_p1, List.forall_mem_cons.mpr ⟨lw_p2, List.forall_mem_cons.mpr ⟨lw_p3, List.forall_mem_cons.mpr ⟨lw_p4, List.forall_mem_cons.mpr ⟨lw_p5, List.forall_mem_cons.mpr ⟨lw_p6, List.forall_mem_cons.mpr ⟨lw_p7, List.forall_mem_cons.mpr ⟨lw_p8, List.forall_mem_cons.mpr ⟨lw_p9, List.forall_mem_cons.mpr ⟨lw_p10, List.forall_mem_cons.mpr ⟨lw_p11, List.forall_mem_cons.mpr ⟨lw_p12, List.forall_mem_cons.mpr ⟨lw_p13, List.forall_mem_cons.mpr ⟨lw_p14, List.forall_mem_cons.mpr ⟨lw_p15, fun _ h => absurd h List.not_mem_nil⟩⟩⟩⟩⟩⟩⟩⟩⟩⟩⟩⟩⟩⟩⟩⟩
theorem lw_p16 : lw_okq (⟨"TableMachine$Machine", "compute", "(II)I"⟩, 6) := ⟨⟨by decide +kernel, by decide +kernel⟩, List.mem_of_getElem? (i := 30) (by decide +kernel), List.mem_of_getElem? (i := 697) (by decide +kernel), List.mem_of_getElem? (i := 698) (by decide +kernel)⟩
theorem lw_p17 : lw_okq (⟨"TableMachine$Machine", "sum", "(III)V"⟩, 6) := ⟨⟨by decide +kernel, by decide +kernel⟩, List.mem_of_getElem? (i := 30) (by decide +kernel), List.mem_of_getElem? (i := 702) (by decide +kernel), List.mem_of_getElem? (i := 703) (by decide +kernel)⟩
theorem lw_p18 : lw_okq (⟨"TableMachine$Machine", "holds", "(III)Z"⟩, 6) := ⟨⟨by decide +kernel, by decide +kernel⟩, List.mem_of_getElem? (i := 30) (by decide +kernel), List.mem_of_getElem? (i := 711) (by decide +kernel), List.mem_of_getElem? (i := 712) (by decide +kernel)⟩
theorem lw_p19 : lw_okq (⟨"TableMachine", "requireResult", "(II)I"⟩, 6) := ⟨⟨by decide +kernel, by decide +kernel⟩, List.mem_of_getElem? (i := 22) (by decide +kernel), List.mem_of_getElem? (i := 730) (by decide +kernel), List.mem_of_getElem? (i := 731) (by decide +kernel)⟩
theorem lw_p20 : lw_okq (⟨"TableMachine$Question", "writeStart", "(LTableMachine$Program;II)V"⟩, 13) := ⟨⟨by decide +kernel, by decide +kernel⟩, List.mem_of_getElem? (i := 186) (by decide +kernel), List.mem_of_getElem? (i := 755) (by decide +kernel), List.mem_of_getElem? (i := 756) (by decide +kernel)⟩
theorem lw_p21 : lw_okq (⟨"TableMachine$Question", "seekable", "(I)I"⟩, 13) := ⟨⟨by decide +kernel, by decide +kernel⟩, List.mem_of_getElem? (i := 186) (by decide +kernel), List.mem_of_getElem? (i := 759) (by decide +kernel), List.mem_of_getElem? (i := 760) (by decide +kernel)⟩
theorem lw_p22 : lw_okq (⟨"TableMachine$Question", "writeConditions", "(LTableMachine$Program;II)V"⟩, 13) := ⟨⟨by decide +kernel, by decide +kernel⟩, List.mem_of_getElem? (i := 186) (by decide +kernel), List.mem_of_getElem? (i := 766) (by decide +kernel), List.mem_of_getElem? (i := 767) (by decide +kernel)⟩
theorem lw_p23 : lw_okq (⟨"TableMachine$Question", "writeCondition", "(LTableMachine$Program;II)V"⟩, 13) := ⟨⟨by decide +kernel, by decide +kernel⟩, List.mem_of_getElem? (i := 186) (by decide +kernel), List.mem_of_getElem? (i := 770) (by decide +kernel), List.mem_of_getElem? (i := 771) (by decide +kernel)⟩
theorem lw_p24 : lw_okq (⟨"TableMachine$Question", "writeColumn", "(LTableMachine$Program;III)V"⟩, 13) := ⟨⟨by decide +kernel, by decide +kernel⟩, List.mem_of_getElem? (i := 186) (by decide +kernel), List.mem_of_getElem? (i := 774) (by decide +kernel), List.mem_of_getElem? (i := 775) (by decide +kernel)⟩
theorem lw_p25 : lw_okq (⟨"TableMachine$Question", "writeTest", "(LTableMachine$Program;III)V"⟩, 13) := ⟨⟨by decide +kernel, by decide +kernel⟩, List.mem_of_getElem? (i := 186) (by decide +kernel), List.mem_of_getElem? (i := 778) (by decide +kernel), List.mem_of_getElem? (i := 779) (by decide +kernel)⟩
theorem lw_p26 : lw_okq (⟨"TableMachine$Question", "writeInnerLoop", "(LTableMachine$Program;I)V"⟩, 13) := ⟨⟨by decide +kernel, by decide +kernel⟩, List.mem_of_getElem? (i := 186) (by decide +kernel), List.mem_of_getElem? (i := 782) (by decide +kernel), List.mem_of_getElem? (i := 783) (by decide +kernel)⟩
theorem lw_p27 : lw_okq (⟨"TableMachine$Question", "writeJoin", "(LTableMachine$Program;I)V"⟩, 13) := ⟨⟨by decide +kernel, by decide +kernel⟩, List.mem_of_getElem? (i := 186) (by decide +kernel), List.mem_of_getElem? (i := 786) (by decide +kernel), List.mem_of_getElem? (i := 787) (by decide +kernel)⟩
theorem lw_p28 : lw_okq (⟨"TableMachine$Question", "writeOutputs", "(LTableMachine$Program;)V"⟩, 13) := ⟨⟨by decide +kernel, by decide +kernel⟩, List.mem_of_getElem? (i := 186) (by decide +kernel), List.mem_of_getElem? (i := 790) (by decide +kernel), List.mem_of_getElem? (i := 791) (by decide +kernel)⟩
theorem lw_p29 : lw_okq (⟨"TableMachineModel", "isTable", "(I)Z"⟩, 32) := ⟨⟨by decide +kernel, by decide +kernel⟩, List.mem_of_getElem? (i := 794) (by decide +kernel), List.mem_of_getElem? (i := 913) (by decide +kernel), List.mem_of_getElem? (i := 914) (by decide +kernel)⟩
theorem lw_p30 : lw_okq (⟨"TableMachineModel", "rowOf", "(IJ)I"⟩, 32) := ⟨⟨by decide +kernel, by decide +kernel⟩, List.mem_of_getElem? (i := 794) (by decide +kernel), List.mem_of_getElem? (i := 917) (by decide +kernel), List.mem_of_getElem? (i := 918) (by decide +kernel)⟩
theorem lw_p31 : lw_okq (⟨"TableMachineModel", "lay", "(IJIZJ)V"⟩, 32) := ⟨⟨by decide +kernel, by decide +kernel⟩, List.mem_of_getElem? (i := 794) (by decide +kernel), List.mem_of_getElem? (i := 921) (by decide +kernel), List.mem_of_getElem? (i := 922) (by decide +kernel)⟩
def lw_privs_2 : List (MethodName × Nat) := [(⟨"TableMachine$Machine", "compute", "(II)I"⟩, 6), (⟨"TableMachine$Machine", "sum", "(III)V"⟩, 6), (⟨"TableMachine$Machine", "holds", "(III)Z"⟩, 6), (⟨"TableMachine", "requireResult", "(II)I"⟩, 6), (⟨"TableMachine$Question", "writeStart", "(LTableMachine$Program;II)V"⟩, 13), (⟨"TableMachine$Question", "seekable", "(I)I"⟩, 13), (⟨"TableMachine$Question", "writeConditions", "(LTableMachine$Program;II)V"⟩, 13), (⟨"TableMachine$Question", "writeCondition", "(LTableMachine$Program;II)V"⟩, 13), (⟨"TableMachine$Question", "writeColumn", "(LTableMachine$Program;III)V"⟩, 13), (⟨"TableMachine$Question", "writeTest", "(LTableMachine$Program;III)V"⟩, 13), (⟨"TableMachine$Question", "writeInnerLoop", "(LTableMachine$Program;I)V"⟩, 13), (⟨"TableMachine$Question", "writeJoin", "(LTableMachine$Program;I)V"⟩, 13), (⟨"TableMachine$Question", "writeOutputs", "(LTableMachine$Program;)V"⟩, 13), (⟨"TableMachineModel", "isTable", "(I)Z"⟩, 32), (⟨"TableMachineModel", "rowOf", "(IJ)I"⟩, 32), (⟨"TableMachineModel", "lay", "(IJIZJ)V"⟩, 32)]
theorem lw_r2 : ∀ q ∈ lw_privs_2, lw_okq q := List.forall_mem_cons.mpr ⟨lw_p16, List.forall_mem_cons.mpr ⟨lw_p17, List.forall_mem_cons.mpr ⟨lw_p18, List.forall_mem_cons.mpr ⟨lw_p19, List.forall_mem_cons.mpr ⟨lw_p20, List.forall_mem_cons.mpr ⟨lw_p21, List.forall_mem_cons.mpr ⟨lw_p22, List.forall_mem_cons.mpr ⟨lw_p23, List.forall_mem_cons.mpr ⟨lw_p24, List.forall_mem_cons.mpr ⟨lw_p25, List.forall_mem_cons.mpr ⟨lw_p26, List.forall_mem_cons.mpr ⟨lw_p27, List.forall_mem_cons.mpr ⟨lw_p28, List.forall_mem_cons.mpr ⟨lw_p29, List.forall_mem_cons.mpr ⟨lw_p30, List.forall_mem_cons.mpr ⟨lw_p31, fun _ h => absurd h List.not_mem_nil⟩⟩⟩⟩⟩⟩⟩⟩⟩⟩⟩⟩⟩⟩⟩⟩
theorem lw_p32 : lw_okq (⟨"TableMachineModel", "take", "(I)V"⟩, 32) := ⟨⟨by decide +kernel, by decide +kernel⟩, List.mem_of_getElem? (i := 794) (by decide +kernel), List.mem_of_getElem? (i := 929) (by decide +kernel), List.mem_of_getElem? (i := 930) (by decide +kernel)⟩
theorem lw_p33 : lw_okq (⟨"TableMachineModel", "rowFrom", "(IJZ)I"⟩, 32) := ⟨⟨by decide +kernel, by decide +kernel⟩, List.mem_of_getElem? (i := 794) (by decide +kernel), List.mem_of_getElem? (i := 941) (by decide +kernel), List.mem_of_getElem? (i := 942) (by decide +kernel)⟩
theorem lw_p34 : lw_okq (⟨"TableMachineModel", "asked", "(IJI)I"⟩, 32) := ⟨⟨by decide +kernel, by decide +kernel⟩, List.mem_of_getElem? (i := 794) (by decide +kernel), List.mem_of_getElem? (i := 949) (by decide +kernel), List.mem_of_getElem? (i := 950) (by decide +kernel)⟩
theorem lw_p35 : lw_okq (⟨"TableMachineModel", "put", "(IIII)V"⟩, 32) := ⟨⟨by decide +kernel, by decide +kernel⟩, List.mem_of_getElem? (i := 794) (by decide +kernel), List.mem_of_getElem? (i := 967) (by decide +kernel), List.mem_of_getElem? (i := 968) (by decide +kernel)⟩
theorem lw_p36 : lw_okq (⟨"TableMachineModel", "sound", "()Z"⟩, 32) := ⟨⟨by decide +kernel, by decide +kernel⟩, List.mem_of_getElem? (i := 794) (by decide +kernel), List.mem_of_getElem? (i := 986) (by decide +kernel), List.mem_of_getElem? (i := 987) (by decide +kernel)⟩
theorem lw_p37 : lw_okq (⟨"TableMachineModel", "keep", "(IZJ)V"⟩, 32) := ⟨⟨by decide +kernel, by decide +kernel⟩, List.mem_of_getElem? (i := 794) (by decide +kernel), List.mem_of_getElem? (i := 993) (by decide +kernel), List.mem_of_getElem? (i := 994) (by decide +kernel)⟩
theorem lw_p38 : lw_okq (⟨"TableMachineModel", "step", "()Z"⟩, 32) := ⟨⟨by decide +kernel, by decide +kernel⟩, List.mem_of_getElem? (i := 794) (by decide +kernel), List.mem_of_getElem? (i := 997) (by decide +kernel), List.mem_of_getElem? (i := 998) (by decide +kernel)⟩
theorem lw_p39 : lw_okq (⟨"TableMachineModel", "withCursor", "(IIII)Z"⟩, 32) := ⟨⟨by decide +kernel, by decide +kernel⟩, List.mem_of_getElem? (i := 794) (by decide +kernel), List.mem_of_getElem? (i := 1004) (by decide +kernel), List.mem_of_getElem? (i := 1005) (by decide +kernel)⟩
theorem lw_p40 : lw_okq (⟨"TableMachineModel", "firstRow", "(I)I"⟩, 32) := ⟨⟨by decide +kernel, by decide +kernel⟩, List.mem_of_getElem? (i := 794) (by decide +kernel), List.mem_of_getElem? (i := 1008) (by decide +kernel), List.mem_of_getElem? (i := 1009) (by decide +kernel)⟩
theorem lw_p41 : lw_okq (⟨"TableMachineModel", "point", "(II)V"⟩, 32) := ⟨⟨by decide +kernel, by decide +kernel⟩, List.mem_of_getElem? (i := 794) (by decide +kernel), List.mem_of_getElem? (i := 1012) (by decide +kernel), List.mem_of_getElem? (i := 1013) (by decide +kernel)⟩
theorem lw_p42 : lw_okq (⟨"TableMachineModel", "rowAt", "(I)I"⟩, 32) := ⟨⟨by decide +kernel, by decide +kernel⟩, List.mem_of_getElem? (i := 794) (by decide +kernel), List.mem_of_getElem? (i := 1016) (by decide +kernel), List.mem_of_getElem? (i := 1017) (by decide +kernel)⟩
theorem lw_p43 : lw_okq (⟨"TableMachineModel", "without", "(IIII)Z"⟩, 32) := ⟨⟨by decide +kernel, by decide +kernel⟩, List.mem_of_getElem? (i := 794) (by decide +kernel), List.mem_of_getElem? (i := 1020) (by decide +kernel), List.mem_of_getElem? (i := 1021) (by decide +kernel)⟩
theorem lw_p44 : lw_okq (⟨"TableMachineModel", "compares", "(IJJ)Z"⟩, 32) := ⟨⟨by decide +kernel, by decide +kernel⟩, List.mem_of_getElem? (i := 794) (by decide +kernel), List.mem_of_getElem? (i := 1024) (by decide +kernel), List.mem_of_getElem? (i := 1025) (by decide +kernel)⟩
theorem lw_p45 : lw_okq (⟨"TableMachineModel", "isColumn", "(II)Z"⟩, 32) := ⟨⟨by decide +kernel, by decide +kernel⟩, List.mem_of_getElem? (i := 794) (by decide +kernel), List.mem_of_getElem? (i := 1044) (by decide +kernel), List.mem_of_getElem? (i := 1045) (by decide +kernel)⟩
theorem lw_p46 : lw_okq (⟨"TableMachineModel", "tableOf", "(I)I"⟩, 32) := ⟨⟨by decide +kernel, by decide +kernel⟩, List.mem_of_getElem? (i := 794) (by decide +kernel), List.mem_of_getElem? (i := 1048) (by decide +kernel), List.mem_of_getElem? (i := 1049) (by decide +kernel)⟩
theorem lw_p47 : lw_okq (⟨"TableMachineModel", "length", "(I)I"⟩, 32) := ⟨⟨by decide +kernel, by decide +kernel⟩, List.mem_of_getElem? (i := 794) (by decide +kernel), List.mem_of_getElem? (i := 1064) (by decide +kernel), List.mem_of_getElem? (i := 1065) (by decide +kernel)⟩
def lw_privs_3 : List (MethodName × Nat) := [(⟨"TableMachineModel", "take", "(I)V"⟩, 32), (⟨"TableMachineModel", "rowFrom", "(IJZ)I"⟩, 32), (⟨"TableMachineModel", "asked", "(IJI)I"⟩, 32), (⟨"TableMachineModel", "put", "(IIII)V"⟩, 32), (⟨"TableMachineModel", "sound", "()Z"⟩, 32), (⟨"TableMachineModel", "keep", "(IZJ)V"⟩, 32), (⟨"TableMachineModel", "step", "()Z"⟩, 32), (⟨"TableMachineModel", "withCursor", "(IIII)Z"⟩, 32), (⟨"TableMachineModel", "firstRow", "(I)I"⟩, 32), (⟨"TableMachineModel", "point", "(II)V"⟩, 32), (⟨"TableMachineModel", "rowAt", "(I)I"⟩, 32), (⟨"TableMachineModel", "without", "(IIII)Z"⟩, 32), (⟨"TableMachineModel", "compares", "(IJJ)Z"⟩, 32), (⟨"TableMachineModel", "isColumn", "(II)Z"⟩, 32), (⟨"TableMachineModel", "tableOf", "(I)I"⟩, 32), (⟨"TableMachineModel", "length", "(I)I"⟩, 32)]
theorem lw_r3 : ∀ q ∈ lw_privs_3, lw_okq q := List.forall_mem_cons.mpr ⟨lw_p32, List.forall_mem_cons.mpr ⟨lw_p33, List.forall_mem_cons.mpr ⟨lw_p34, List.forall_mem_cons.mpr ⟨lw_p35, List.forall_mem_cons.mpr ⟨lw_p36, List.forall_mem_cons.mpr ⟨lw_p37, List.forall_mem_cons.mpr ⟨lw_p38, List.forall_mem_cons.mpr ⟨lw_p39, List.forall_mem_cons.mpr ⟨lw_p40, List.forall_mem_cons.mpr ⟨lw_p41, List.forall_mem_cons.mpr ⟨lw_p42, List.forall_mem_cons.mpr ⟨lw_p43, List.forall_mem_cons.mpr ⟨lw_p44, List.forall_mem_cons.mpr ⟨lw_p45, List.forall_mem_cons.mpr ⟨lw_p46, List.forall_mem_cons.mpr ⟨lw_p47, fun _ h => absurd h List.not_mem_nil⟩⟩⟩⟩⟩⟩⟩⟩⟩⟩⟩⟩⟩⟩⟩⟩
theorem lw_p48 : lw_okq (⟨"TableMachineModel", "seeker", "(I)I"⟩, 32) := ⟨⟨by decide +kernel, by decide +kernel⟩, List.mem_of_getElem? (i := 794) (by decide +kernel), List.mem_of_getElem? (i := 1068) (by decide +kernel), List.mem_of_getElem? (i := 1069) (by decide +kernel)⟩
theorem lw_p49 : lw_okq (⟨"TableMachineModel", "loop", "(III)I"⟩, 32) := ⟨⟨by decide +kernel, by decide +kernel⟩, List.mem_of_getElem? (i := 794) (by decide +kernel), List.mem_of_getElem? (i := 1072) (by decide +kernel), List.mem_of_getElem? (i := 1073) (by decide +kernel)⟩
theorem lw_p50 : lw_okq (⟨"TableMachineModel", "read", "(III)V"⟩, 32) := ⟨⟨by decide +kernel, by decide +kernel⟩, List.mem_of_getElem? (i := 794) (by decide +kernel), List.mem_of_getElem? (i := 1076) (by decide +kernel), List.mem_of_getElem? (i := 1077) (by decide +kernel)⟩
theorem lw_p51 : lw_okq (⟨"TableMachineModel", "outputsAndResult", "()V"⟩, 32) := ⟨⟨by decide +kernel, by decide +kernel⟩, List.mem_of_getElem? (i := 794) (by decide +kernel), List.mem_of_getElem? (i := 1080) (by decide +kernel), List.mem_of_getElem? (i := 1081) (by decide +kernel)⟩
def lw_privs_4 : List (MethodName × Nat) := [(⟨"TableMachineModel", "seeker", "(I)I"⟩, 32), (⟨"TableMachineModel", "loop", "(III)I"⟩, 32), (⟨"TableMachineModel", "read", "(III)V"⟩, 32), (⟨"TableMachineModel", "outputsAndResult", "()V"⟩, 32)]
theorem lw_r4 : ∀ q ∈ lw_privs_4, lw_okq q := List.forall_mem_cons.mpr ⟨lw_p48, List.forall_mem_cons.mpr ⟨lw_p49, List.forall_mem_cons.mpr ⟨lw_p50, List.forall_mem_cons.mpr ⟨lw_p51, fun _ h => absurd h List.not_mem_nil⟩⟩⟩⟩
def lw_privs : List (MethodName × Nat) := lw_privs_1 ++ (lw_privs_2 ++ (lw_privs_3 ++ (lw_privs_4)))
def lw_tbl : List Cond := k2_sels lw_privs ++ tables_1
theorem lw_privs_ok : ∀ q ∈ lw_privs, lw_okq q := by
  show ∀ q ∈ lw_privs_1 ++ (lw_privs_2 ++ (lw_privs_3 ++ (lw_privs_4))), lw_okq q
  exact List.forall_mem_append.mpr ⟨lw_r1, List.forall_mem_append.mpr ⟨lw_r2, List.forall_mem_append.mpr ⟨lw_r3, lw_r4⟩⟩⟩
end
section
/-! the classes whose objects the heap holds, their fields, by program out of the tables of the Statement -/
def zr0 : String := "TableMachine"
def zf0 : u_T := fun k => match k with
  | 0 => ("TableMachine", "machine", "LTableMachine$Machine;", true)
  | 1 => ("TableMachine", "store", "LTableMachine$Store;", true)
  | 2 => ("TableMachine", "program", "LTableMachine$Program;", true)
  | 3 => ("TableMachine", "results", "LTableMachine$Results;", true)
  | 4 => ("TableMachine", "coming", "LTableMachine$Values;", true)
  | _ => ("TableMachine", "question", "LTableMachine$Question;", true)
def zt0 : Nat → FieldType := fun k => match k with
  | 0 => .object "TableMachine$Machine"
  | 1 => .object "TableMachine$Store"
  | 2 => .object "TableMachine$Program"
  | 3 => .object "TableMachine$Results"
  | 4 => .object "TableMachine$Values"
  | _ => .object "TableMachine$Question"
theorem zn0 : ∀ a, a < 6 → ∀ b, b < 6 → a ≠ b → (zf0 a).2.1 ≠ (zf0 b).2.1 := by decide +kernel
theorem zk0 : ∀ k, k < 6 → parseFieldDescriptor (zf0 k).2.2.1 = some (zt0 k) := by decide +kernel
def zr1 : String := "TableMachine$Machine"
def zf1 : u_T := fun k => match k with
  | 0 => ("TableMachine$Machine", "store", "LTableMachine$Store;", true)
  | 1 => ("TableMachine$Machine", "program", "LTableMachine$Program;", true)
  | 2 => ("TableMachine$Machine", "results", "LTableMachine$Results;", true)
  | 3 => ("TableMachine$Machine", "registers", "LTableMachine$Values;", true)
  | 4 => ("TableMachine$Machine", "cursors", "[LTableMachine$Cursor;", true)
  | _ => ("TableMachine$Machine", "outcome", "I", false)
def zt1 : Nat → FieldType := fun k => match k with
  | 0 => .object "TableMachine$Store"
  | 1 => .object "TableMachine$Program"
  | 2 => .object "TableMachine$Results"
  | 3 => .object "TableMachine$Values"
  | 4 => .array (.object "TableMachine$Cursor")
  | _ => .int
theorem zn1 : ∀ a, a < 6 → ∀ b, b < 6 → a ≠ b → (zf1 a).2.1 ≠ (zf1 b).2.1 := by decide +kernel
theorem zk1 : ∀ k, k < 6 → parseFieldDescriptor (zf1 k).2.2.1 = some (zt1 k) := by decide +kernel
def zr2 : String := "TableMachine$Store"
def zf2 : u_T := fun k => match k with
  | 0 => ("TableMachine$Store", "tables", "[LTableMachine$Table;", true)
  | 1 => ("TableMachine$Store", "tableCount", "I", false)
  | 2 => ("TableMachine$Store", "cells", "LTableMachine$Values;", true)
  | 3 => ("TableMachine$Store", "keys", "[J", true)
  | 4 => ("TableMachine$Store", "spare", "[I", true)
  | _ => ("TableMachine$Store", "spareCount", "I", false)
def zt2 : Nat → FieldType := fun k => match k with
  | 0 => .array (.object "TableMachine$Table")
  | 1 => .int
  | 2 => .object "TableMachine$Values"
  | 3 => .array .long
  | 4 => .array .int
  | _ => .int
theorem zn2 : ∀ a, a < 6 → ∀ b, b < 6 → a ≠ b → (zf2 a).2.1 ≠ (zf2 b).2.1 := by decide +kernel
theorem zk2 : ∀ k, k < 6 → parseFieldDescriptor (zf2 k).2.2.1 = some (zt2 k) := by decide +kernel
def zr3 : String := "TableMachine$Table"
def zf3 : u_T := fun k => match k with
  | 0 => ("TableMachine$Table", "columns", "I", false)
  | 1 => ("TableMachine$Table", "size", "I", false)
  | _ => ("TableMachine$Table", "slots", "[I", true)
def zt3 : Nat → FieldType := fun k => match k with
  | 0 => .int
  | 1 => .int
  | _ => .array .int
theorem zn3 : ∀ a, a < 3 → ∀ b, b < 3 → a ≠ b → (zf3 a).2.1 ≠ (zf3 b).2.1 := by decide +kernel
theorem zk3 : ∀ k, k < 3 → parseFieldDescriptor (zf3 k).2.2.1 = some (zt3 k) := by decide +kernel
def zr4 : String := "TableMachine$Values"
def zf4 : u_T := fun k => match k with
  | 0 => ("TableMachine$Values", "numbers", "[J", true)
  | _ => ("TableMachine$Values", "known", "[Z", true)
def zt4 : Nat → FieldType := fun k => match k with
  | 0 => .array .long
  | _ => .array .boolean
theorem zn4 : ∀ a, a < 2 → ∀ b, b < 2 → a ≠ b → (zf4 a).2.1 ≠ (zf4 b).2.1 := by decide +kernel
theorem zk4 : ∀ k, k < 2 → parseFieldDescriptor (zf4 k).2.2.1 = some (zt4 k) := by decide +kernel
def zr5 : String := "TableMachine$Cursor"
def zf5 : u_T := fun k => match k with
  | 0 => ("TableMachine$Cursor", "table", "I", false)
  | 1 => ("TableMachine$Cursor", "hasKey", "Z", false)
  | _ => ("TableMachine$Cursor", "key", "J", false)
def zt5 : Nat → FieldType := fun k => match k with
  | 0 => .int
  | 1 => .boolean
  | _ => .long
theorem zn5 : ∀ a, a < 3 → ∀ b, b < 3 → a ≠ b → (zf5 a).2.1 ≠ (zf5 b).2.1 := by decide +kernel
theorem zk5 : ∀ k, k < 3 → parseFieldDescriptor (zf5 k).2.2.1 = some (zt5 k) := by decide +kernel
def zr6 : String := "TableMachine$Program"
def zf6 : u_T := fun k => match k with
  | 0 => ("TableMachine$Program", "size", "I", false)
  | _ => ("TableMachine$Program", "words", "[I", true)
def zt6 : Nat → FieldType := fun k => match k with
  | 0 => .int
  | _ => .array .int
theorem zn6 : ∀ a, a < 2 → ∀ b, b < 2 → a ≠ b → (zf6 a).2.1 ≠ (zf6 b).2.1 := by decide +kernel
theorem zk6 : ∀ k, k < 2 → parseFieldDescriptor (zf6 k).2.2.1 = some (zt6 k) := by decide +kernel
def zr7 : String := "TableMachine$Results"
def zf7 : u_T := fun k => match k with
  | 0 => ("TableMachine$Results", "size", "I", false)
  | 1 => ("TableMachine$Results", "widths", "[I", true)
  | _ => ("TableMachine$Results", "cells", "LTableMachine$Values;", true)
def zt7 : Nat → FieldType := fun k => match k with
  | 0 => .int
  | 1 => .array .int
  | _ => .object "TableMachine$Values"
theorem zn7 : ∀ a, a < 3 → ∀ b, b < 3 → a ≠ b → (zf7 a).2.1 ≠ (zf7 b).2.1 := by decide +kernel
theorem zk7 : ∀ k, k < 3 → parseFieldDescriptor (zf7 k).2.2.1 = some (zt7 k) := by decide +kernel
def zr8 : String := "TableMachine$Question"
def zf8 : u_T := fun k => match k with
  | 0 => ("TableMachine$Question", "tables", "[I", true)
  | 1 => ("TableMachine$Question", "outputs", "I", false)
  | 2 => ("TableMachine$Question", "conditions", "I", false)
  | 3 => ("TableMachine$Question", "cursors", "I", false)
  | 4 => ("TableMachine$Question", "outputCursors", "[I", true)
  | 5 => ("TableMachine$Question", "outputColumns", "[I", true)
  | 6 => ("TableMachine$Question", "conditionCursors", "[I", true)
  | 7 => ("TableMachine$Question", "conditionColumns", "[I", true)
  | 8 => ("TableMachine$Question", "comparisons", "[I", true)
  | 9 => ("TableMachine$Question", "numbers", "[I", true)
  | 10 => ("TableMachine$Question", "joined", "Z", false)
  | 11 => ("TableMachine$Question", "firstJoined", "I", false)
  | _ => ("TableMachine$Question", "secondJoined", "I", false)
def zt8 : Nat → FieldType := fun k => match k with
  | 0 => .array .int
  | 1 => .int
  | 2 => .int
  | 3 => .int
  | 4 => .array .int
  | 5 => .array .int
  | 6 => .array .int
  | 7 => .array .int
  | 8 => .array .int
  | 9 => .array .int
  | 10 => .boolean
  | 11 => .int
  | _ => .int
theorem zn8 : ∀ a, a < 13 → ∀ b, b < 13 → a ≠ b → (zf8 a).2.1 ≠ (zf8 b).2.1 := by decide +kernel
theorem zk8 : ∀ k, k < 13 → parseFieldDescriptor (zf8 k).2.2.1 = some (zt8 k) := by decide +kernel
def zr9 : String := "TableMachineModel"
def zf9 : u_T := fun k => match k with
  | 0 => ("TableMachineModel", "thrown", "I", false)
  | 1 => ("TableMachineModel", "tables", "I", false)
  | 2 => ("TableMachineModel", "columns", "[I", true)
  | 3 => ("TableMachineModel", "rows", "I", false)
  | 4 => ("TableMachineModel", "owner", "[I", true)
  | 5 => ("TableMachineModel", "keys", "[J", true)
  | 6 => ("TableMachineModel", "values", "[J", true)
  | 7 => ("TableMachineModel", "has", "[Z", true)
  | 8 => ("TableMachineModel", "coming", "[J", true)
  | 9 => ("TableMachineModel", "comes", "[Z", true)
  | 10 => ("TableMachineModel", "size", "I", false)
  | 11 => ("TableMachineModel", "code", "[I", true)
  | 12 => ("TableMachineModel", "registers", "[J", true)
  | 13 => ("TableMachineModel", "full", "[Z", true)
  | 14 => ("TableMachineModel", "open", "[I", true)
  | 15 => ("TableMachineModel", "keyed", "[Z", true)
  | 16 => ("TableMachineModel", "at", "[J", true)
  | 17 => ("TableMachineModel", "outcome", "I", false)
  | 18 => ("TableMachineModel", "place", "I", false)
  | 19 => ("TableMachineModel", "results", "I", false)
  | 20 => ("TableMachineModel", "wide", "[I", true)
  | 21 => ("TableMachineModel", "told", "[J", true)
  | 22 => ("TableMachineModel", "given", "[Z", true)
  | 23 => ("TableMachineModel", "first", "I", false)
  | 24 => ("TableMachineModel", "second", "I", false)
  | 25 => ("TableMachineModel", "outputs", "I", false)
  | 26 => ("TableMachineModel", "output", "[I", true)
  | 27 => ("TableMachineModel", "conditions", "I", false)
  | 28 => ("TableMachineModel", "condition", "[I", true)
  | 29 => ("TableMachineModel", "joins", "Z", false)
  | 30 => ("TableMachineModel", "joinFirst", "I", false)
  | _ => ("TableMachineModel", "joinSecond", "I", false)
def zt9 : Nat → FieldType := fun k => match k with
  | 0 => .int
  | 1 => .int
  | 2 => .array .int
  | 3 => .int
  | 4 => .array .int
  | 5 => .array .long
  | 6 => .array .long
  | 7 => .array .boolean
  | 8 => .array .long
  | 9 => .array .boolean
  | 10 => .int
  | 11 => .array .int
  | 12 => .array .long
  | 13 => .array .boolean
  | 14 => .array .int
  | 15 => .array .boolean
  | 16 => .array .long
  | 17 => .int
  | 18 => .int
  | 19 => .int
  | 20 => .array .int
  | 21 => .array .long
  | 22 => .array .boolean
  | 23 => .int
  | 24 => .int
  | 25 => .int
  | 26 => .array .int
  | 27 => .int
  | 28 => .array .int
  | 29 => .boolean
  | 30 => .int
  | _ => .int
theorem zn9 : ∀ a, a < 32 → ∀ b, b < 32 → a ≠ b → (zf9 a).2.1 ≠ (zf9 b).2.1 := by decide +kernel
theorem zk9 : ∀ k, k < 32 → parseFieldDescriptor (zf9 k).2.2.1 = some (zt9 k) := by decide +kernel
abbrev zCl : List vw_C := [(zr0, zf0, 6), (zr1, zf1, 6), (zr2, zf2, 6), (zr3, zf3, 3), (zr4, zf4, 2), (zr5, zf5, 3), (zr6, zf6, 2), (zr7, zf7, 3), (zr8, zf8, 13), (zr9, zf9, 32)]
def zTab : String := "TableMachine$Table"
def zCur : String := "TableMachine$Cursor"
end
section
/-! A light judgement over the machine's: heaps as functions of small numbers, one row an instruction. -/
abbrev zX : Type := Launch × (Nat → ClassId) × (Nat → Nat → Nat) × (Nat → Nat) × (Nat → ClassId)
abbrev zM : Type := MethodName × ByteArray × Nat × Option FieldType
abbrev zH : Type := Nat → va_E
def zV (ad : Nat → Nat) (v : Value) : Value := match v with
  | .ref i => .ref (ad i)
  | v => v
def zA (ad : Nat → Nat) (a : vp_A) : vp_A := match a with
  | (n, .inr (.inr (.inr (.inr g)))) => (n, .inr (.inr (.inr (.inr fun i => (g i).map ad))))
  | x => x
def zE (ad : Nat → Nat) (ca : Nat → ClassId) (e : va_E) : va_E := match e with
  | .inl (t, x) => .inl (ca t, zA ad x)
  | .inr (c, fs) => .inr (c, fs.map (zV ad))
def zW (ad : Nat → Nat) (ca : Nat → ClassId) (h : zH) (n : Nat) : va_W := (List.range n).map fun i => (ad i, zE ad ca (h i))
theorem zV_cat (ad : Nat → Nat) (v : Value) : (zV ad v).category = v.category := by cases v <;> rfl
theorem zW_get {ad : Nat → Nat} {ca : Nat → ClassId} {h : zH} {n i : Nat} (hi : i < n) : (zW ad ca h n)[i]? = some (ad i, zE ad ca (h i)) := by
  simp [zW, List.getElem?_range hi]
theorem zW_inv {ad : Nat → Nat} {ca : Nat → ClassId} {h : zH} {n i : Nat} {q : Nat × va_E} (hq : (zW ad ca h n)[i]? = some q) : i < n ∧ q = (ad i, zE ad ca (h i)) := by
  have hl : i < (zW ad ca h n).length := (List.getElem?_eq_some_iff.mp hq).1
  have hi : i < n := by simpa [zW] using hl
  rw [zW_get hi] at hq
  exact ⟨hi, (Option.some.inj hq).symm⟩
theorem zW_set {ad : Nat → Nat} {ca : Nat → ClassId} {h : zH} {n i : Nat} {e : va_E} (hi : i < n) : (zW ad ca h n).set i (ad i, zE ad ca e) = zW ad ca (va_up h i e) n := by
  apply List.ext_getElem?
  intro j
  by_cases hj : j < n
  · by_cases hij : i = j
    · subst hij
      rw [List.getElem?_set_self (by simpa [zW] using hi), zW_get hi]
      simp [va_up]
    · rw [List.getElem?_set_ne hij, zW_get hj, zW_get hj]
      simp [va_up, Ne.symm hij]
  · rw [List.getElem?_eq_none (by simp [zW]; omega), List.getElem?_eq_none (by simp [zW]; omega)]
theorem zW_push {ad : Nat → Nat} {ca : Nat → ClassId} {h : zH} {n : Nat} {e : va_E} : zW ad ca h n ++ [(ad n, zE ad ca e)] = zW ad ca (va_up h n e) (n + 1) := by
  apply List.ext_getElem?
  intro j
  by_cases hj : j < n
  · rw [List.getElem?_append_left (by simpa [zW] using hj), zW_get hj, zW_get (by omega)]
    simp [va_up, Nat.ne_of_lt hj]
  · by_cases hij : j = n
    · subst hij
      rw [List.getElem?_append_right (by simp [zW]), zW_get (by omega)]
      simp [zW, va_up]
    · rw [List.getElem?_eq_none (by simp [zW]; omega), List.getElem?_eq_none (by simp [zW]; omega)]
/-- the words that hold at every state of the run -/
def zWA : List Cond := lw_tbl.filter goodWord
theorem zWA_good : ∀ w ∈ zWA, goodWord w = true := fun _ h => (List.mem_filter.mp h).2
theorem zWA_of {i : Nat} {w : Cond} (h : tables_1[i]? = some w) (hg : goodWord w = true) : w ∈ zWA := List.mem_filter.mpr ⟨List.mem_append_right _ (List.mem_of_getElem? h), hg⟩
theorem zWA_sel {i : Nat} {w : Cond} (h : (k2_sels lw_privs)[i]? = some w) (hg : goodWord w = true) : w ∈ zWA := List.mem_filter.mpr ⟨List.mem_append_left _ (List.mem_of_getElem? h), hg⟩
def zNest : List (String × Nat × MethodName) := [("TableMachine$Store", 41, ⟨"TableMachine$Table", "<init>", "()V"⟩), ("TableMachine$Machine", 20, ⟨"TableMachine$Program", "<init>", "()V"⟩), ("TableMachine$Machine", 27, ⟨"TableMachine$Results", "<init>", "()V"⟩), ("TableMachine$Machine", 51, ⟨"TableMachine$Cursor", "<init>", "()V"⟩), ("TableMachine", 42, ⟨"TableMachine$Question", "<init>", "()V"⟩), ("TableMachine$Store", 45, ⟨"TableMachine", "isIndex", "(II)Z"⟩), ("TableMachine$Question", 53, ⟨"TableMachine", "isIndex", "(II)Z"⟩), ("TableMachine$Op", 15, ⟨"TableMachine", "isIndex", "(II)Z"⟩), ("TableMachine$Kind", 9, ⟨"TableMachine", "isIndex", "(II)Z"⟩), ("TableMachine$Results", 28, ⟨"TableMachine", "isIndex", "(II)Z"⟩)]
def zKinds : List Int32 := [0, 0, 0, 1, 2, 0, 1, 3, 0, 1, 3, 0, 1, 4, 5, 1, 5, 0, 8, 5, 0, 5, 0, 0, 1, 3, 5, 5, 3, 5, 5, 3, 5, 5, 3, 5, 5, 3, 5, 5, 3, 5, 5, 3, 5, 5, 3, 0, 5, 3, 0, 5, 5, 5, 5, 7, 0, 3, 0, 0, 1, 3, 6, 1, 0, 0]
/-- what holds of the statics and the tables all the time; A: the cells that may change -/
def zS (X : zX) (A : Nat → Prop) (U : State) (H : Heap) : Prop :=
  (∀ q ∈ zNest, va_Nw (.methodLinkNest q.1 q.2.1 q.2.2 "TableMachine") U) ∧
  va_Z "TableMachine$Op" "KINDS" "[I" (.ref (X.2.2.2.1 900)) A U H ∧ va_T .int (X.2.2.2.1 900) 66 (fun j => .int (zKinds.getD j 0)) A U H ∧
  ∀ i, i < 200 → X.2.2.2.1 (i + 1) = X.2.2.2.1 i + 1
theorem zS_same {X : zX} {A : Nat → Prop} {U U' : State} (hv : U.vm = U'.vm) (hh : U'.heap = U.heap) (h : zS X A U U.heap) : zS X A U' U'.heap := by
  obtain ⟨h1, h2, h3, h4⟩ := h
  have ha : U.vm.Alike U'.vm := by rw [hv]; exact Vm.Alike.refl _
  rw [hh]
  exact ⟨fun q hq => va_Nw.same rfl hv (h1 q hq), va_Z.moved ha h2, va_T.moved ha h3, h4⟩
theorem zS_move {X : zX} {A A1 : Nat → Prop} {s U : State} {H : Heap} {locs : List Loc} (hW : s.WarmedH U.vm) (hA : ∀ q, A1 q → A q) (hS : va_S A s.heap H locs) (h : zS X A s s.heap) : zS X A1 U H := by
  obtain ⟨h1, h2, h3, h4⟩ := h
  exact ⟨fun q hq => va_Nw.warmM hW (h1 q hq), va_Z.narrow (va_Z.moved hW.alike (va_Z.kept h2 hS.2.1)) hA, va_T.narrow (va_T.moved hW.alike (va_T.kept h3 hS.2.1)) hA, h4⟩
/-- the arrays' classes, by small numbers -/
def zT (ca : Nat → ClassId) : List (ClassId × FieldType) := [(ca 0, .int), (ca 1, .long), (ca 2, .boolean), (ca 3, .object zTab), (ca 4, .object zCur)]
def zws (M : zM) : List Cond := .code M.1 M.2.1 M.2.2.1 M.2.2.2 :: zWA
/-- the room of a method d calls high, that makes mc cells of ms slots -/
def zR (d mc ms : Nat) : Room := { frames := d + 3, cells := mc, slots := ms, locals := 33 * d }
/-- what holds from the start of a method to its end -/
def zB (X : zX) (M : zM) (p : Program) (s : State) (m : MethodId) (args : Array Value) (meth : Method) (c : Code) (A : Nat → Prop) : Prop :=
  p.tables.exec = Jvm.exec ∧ c.code = M.2.1 ∧ c.maxLocals = M.2.2.1 ∧ meth.sig.returnType = M.2.2.2 ∧ meth.locks = false ∧ (∀ w ∈ zWA, w.before args s = true) ∧ s.vm.findClass M.1.cls = some m.cls ∧ meth.name = M.1.name ∧
  (∀ x ∈ c.exceptionTable.toList, False) ∧ va_K (X.2.1, X.2.2.1) zCl (zT X.2.2.2.2) s ∧ zS X A s s.heap ∧ (∀ q, s.heap.size ≤ q → A q)
section ZB
variable {X : zX} {M : zM} {p : Program} {s : State} {m : MethodId} {args : Array Value} {meth : Method} {c : Code} {A : Nat → Prop}
theorem zB.words (hB : zB X M p s m args meth c A) : ∀ w ∈ zWA, w.before args s = true := hB.2.2.2.2.2.1
theorem zB.word (hB : zB X M p s m args meth c A) {w : Cond} (h : w ∈ zWA) : w.before args s = true := hB.words w h
theorem zB.own (hB : zB X M p s m args meth c A) : s.vm.findClass M.1.cls = some m.cls := hB.2.2.2.2.2.2.1
theorem zB.mname (hB : zB X M p s m args meth c A) : meth.name = M.1.name := hB.2.2.2.2.2.2.2.1
theorem zB.noEx (hB : zB X M p s m args meth c A) : ∀ x ∈ c.exceptionTable.toList, False := hB.2.2.2.2.2.2.2.2.1
theorem zB.kinds (hB : zB X M p s m args meth c A) : va_K (X.2.1, X.2.2.1) zCl (zT X.2.2.2.2) s := hB.2.2.2.2.2.2.2.2.2.1
theorem zB.stat (hB : zB X M p s m args meth c A) : zS X A s s.heap := hB.2.2.2.2.2.2.2.2.2.2.1
theorem zB.hA (hB : zB X M p s m args meth c A) : ∀ q, s.heap.size ≤ q → A q := hB.2.2.2.2.2.2.2.2.2.2.2
end ZB
/-- the heap as it is now -/
def zD (X : zX) (A : Nat → Prop) (s : State) (fr : Bool) (k : Nat) (h : zH) (n : Nat) (H : Heap) (locs : List Loc) : Prop :=
  va_P (X.2.1, X.2.2.1) zCl (zW X.2.2.2.1 X.2.2.2.2 h n) H ∧ va_D A (zW X.2.2.2.1 X.2.2.2.2 h n) ∧ va_S A s.heap H locs ∧ (fr = true → X.2.2.2.1 n ≤ H.size ∧ X.2.2.2.1 n = s.heap.size + k)
/-- how it ends -/
def zF (X : zX) (A : Nat → Prop) (fr : Bool) (h : zH) (n : Nat) (st t : State) : Prop :=
  va_P (X.2.1, X.2.2.1) zCl (zW X.2.2.2.1 X.2.2.2.2 h n) t.heap ∧ va_D A (zW X.2.2.2.1 X.2.2.2.2 h n) ∧ va_F A st t ∧ (fr = true → X.2.2.2.1 n ≤ t.heap.size)
def zQ (X : zX) (A : Nat → Prop) (fr : Bool) (v : Option Value) (h : zH) (n : Nat) : Array Value → State → Outcome → State → Prop := fun _ st oc t => oc = .returned (v.map (zV X.2.2.2.1)) ∧ zF X A fr h n st t
abbrev zQT : Type := (Nat → Prop) → List Frame → Array Value → State → State → Prop
/-- the method returns v, with the heap h -/
def zRet (X : zX) (mc ms : Nat) (fr : Bool) (v : Option Value) (h : zH) (n : Nat) : zQT := fun A below args s => MQ below (zQ X A fr v h n) args s mc ms A
def zJ (X : zX) (R : Room) (M : zM) (Q : zQT) (fr : Bool) (k j : Nat) (h : zH) (n : Nat) (pc : Nat) (lv : List (Nat × Value)) (st : List Value) : Prop :=
  ∀ (p : Program) (e : Env) (s : State) (m : MethodId) (args : Array Value) (below : List Frame) (meth : Method) (c : Code) (A : Nat → Prop) (H : Heap) (locs : List Loc) (ls : Array Slot),
    zB X M p s m args meth c A → zD X A s fr k h n H locs → lv_has ls M.2.2.1 (lv.map fun q => (q.1, zV X.2.2.2.1 q.2)) →
    W p X.1 e R s m args below meth c H locs k j (Q A below args s) (F0 m pc ls (st.map (zV X.2.2.2.1)))
def zPc (X : zX) (fr : Bool) (av : List Value) (h : zH) (n sz : Nat) : Array Value → State → Prop := va_Pc (av.map (zV X.2.2.2.1)) (fun U => U.heap.size = sz ∧ va_P (X.2.1, X.2.2.1) zCl (zW X.2.2.2.1 X.2.2.2.2 h n) U.heap ∧ va_K (X.2.1, X.2.2.1) zCl (zT X.2.2.2.2) U ∧ va_D (fun _ => True) (zW X.2.2.2.1 X.2.2.2.2 h n) ∧ zS X (va_A (zW X.2.2.2.1 X.2.2.2.2 h n) sz) U U.heap ∧ (fr = true → sz = X.2.2.2.1 n))
/-- a contract: from the heap h, called with av, M returns v and leaves the heap hf -/
def zC (X : zX) (d : Nat) (M : zM) (mc ms : Nat) (fr : Bool) (av : List Value) (h : zH) (n : Nat) (v : Option Value) (hf : zH) (nf : Nat) : Prop :=
  ∀ sz : Nat, Met X.1 M.1 (zws M) (zR d mc ms) (zPc X fr av h n sz) (zQ X (va_A (zW X.2.2.2.1 X.2.2.2.2 h n) sz) fr v hf nf) mc ms (va_A (zW X.2.2.2.1 X.2.2.2.2 h n) sz)
/-! locals -/
def zst (i : Nat) (v : Value) (lv : List (Nat × Value)) : List (Nat × Value) :=
  (lv.filter fun q => !(q.1 == i) && !(q.1 + 1 == i && q.2.category == 2) && !(v.category == 2 && q.1 == i + 1)) ++ [(i, v)]
theorem zlv_map (ad : Nat → Nat) : ∀ (av : List Value) (i : Nat), lv_args i (av.map (zV ad)) = (lv_args i av).map fun q => (q.1, zV ad q.2)
  | [], _ => rfl
  | v :: vs, i => by
    show (i, zV ad v) :: lv_args (if (zV ad v).category = 2 then i + 2 else i + 1) (vs.map (zV ad)) = (i, zV ad v) :: (lv_args (if v.category = 2 then i + 2 else i + 1) vs).map _
    rw [zV_cat, zlv_map ad vs]
theorem zl_mem : ∀ {lv : List (Nat × Value)} {i : Nat} {v : Value}, lv.lookup i = some v → (i, v) ∈ lv
  | [], _, _, h => by simp [List.lookup] at h
  | (a, b) :: r, i, v, h => by
    by_cases hi : i = a
    · subst hi
      rw [List.lookup_cons_self] at h
      cases h
      exact List.mem_cons_self
    · have : (i == a) = false := by simpa using hi
      simp only [List.lookup, this] at h
      exact List.mem_cons_of_mem _ (zl_mem h)
theorem zl_at {ad : Nat → Nat} {ls : Array Slot} {nL : Nat} {lv : List (Nat × Value)} (hL : lv_has ls nL (lv.map fun q => (q.1, zV ad q.2))) {i : Nat} {v : Value} (h : lv.lookup i = some v) : ls[i]? = some (.val (zV ad v)) :=
  hL.2.2 (i, zV ad v) (List.mem_map.mpr ⟨(i, v), zl_mem h, rfl⟩)
theorem zl_ix {ad : Nat → Nat} {lv : List (Nat × Value)} {i : Nat} {v : Value} (h : lv.lookup i = some v) : ∃ k0 : Nat, (lv.map fun q => (q.1, zV ad q.2))[k0]? = some (i, zV ad v) :=
  List.getElem?_of_mem (List.mem_map.mpr ⟨(i, v), zl_mem h, rfl⟩)
theorem zl_st1 {ad : Nat → Nat} {ls : Array Slot} {nL i : Nat} {v : Value} {lv : List (Nat × Value)} (hL : lv_has ls nL ((i, zV ad v) :: (lv.map fun q => (q.1, zV ad q.2)).filter (fun q => !(q.1 == i) && !(q.1 + 1 == i && q.2.category == 2)))) : lv_has ls nL ((zst i v lv).map fun q => (q.1, zV ad q.2)) := by
  refine ⟨hL.1, hL.2.1, fun q hq => hL.2.2 q ?_⟩
  obtain ⟨q0, hq0, rfl⟩ := List.mem_map.mp hq
  rcases List.mem_append.mp hq0 with h | h
  · obtain ⟨h1, h2⟩ := List.mem_filter.mp h
    refine List.mem_cons_of_mem _ (List.mem_filter.mpr ⟨List.mem_map.mpr ⟨q0, h1, rfl⟩, ?_⟩)
    simp only [zV_cat]
    simp only [Bool.and_eq_true] at h2 ⊢
    exact h2.1
  · rw [List.mem_singleton.mp h]
    exact List.mem_cons_self
theorem zl_st2 {ad : Nat → Nat} {ls : Array Slot} {nL i : Nat} {v : Value} {lv : List (Nat × Value)} (hc : v.category = 2) (hL : lv_has ls nL ((i, zV ad v) :: (lv.map fun q => (q.1, zV ad q.2)).filter (fun q => !(q.1 == i) && (!(q.1 == i + 1) && !(q.1 + 1 == i && q.2.category == 2))))) : lv_has ls nL ((zst i v lv).map fun q => (q.1, zV ad q.2)) := by
  refine ⟨hL.1, hL.2.1, fun q hq => hL.2.2 q ?_⟩
  obtain ⟨q0, hq0, rfl⟩ := List.mem_map.mp hq
  rcases List.mem_append.mp hq0 with h | h
  · obtain ⟨h1, h2⟩ := List.mem_filter.mp h
    refine List.mem_cons_of_mem _ (List.mem_filter.mpr ⟨List.mem_map.mpr ⟨q0, h1, rfl⟩, ?_⟩)
    simp only [zV_cat]
    simp only [Bool.and_eq_true, hc] at h2 ⊢
    exact ⟨h2.1.1, by simpa using h2.2, h2.1.2⟩
  · rw [List.mem_singleton.mp h]
    exact List.mem_cons_self
/-! an index in range -/
def zin (i : Int32) (t len : Nat) : Prop := i = nI t ∧ t < len ∧ len < 2 ^ 31
theorem zin.cl {i : Int32} {t len : Nat} (h : zin i t len) : i.toNatClampNeg = t := by
  rw [h.1, nI_clamp (Nat.lt_trans h.2.1 h.2.2)]
theorem zin.vp {i : Int32} {t len : Nat} (h : zin i t len) : vp_in i len := by
  rw [h.1]; exact vp_in_nI h.2.1 h.2.2
/-! the heap behind a write -/
theorem zS_self {A : Nat → Prop} {H0 H : Heap} {locs : List Loc} (h : va_S A H0 H locs) : va_S A H H locs := ⟨Nat.le_refl _, fun _ _ _ => rfl, h.2.2⟩
theorem zS_tr {A : Nat → Prop} {H0 H H1 : Heap} {locs locs1 : List Loc} (h : va_S A H0 H locs) (h1 : va_S A H H1 locs1) : va_S A H0 H1 locs1 :=
  ⟨Nat.le_trans h.1 h1.1, fun q hq hA => (h1.2.1 q (Nat.lt_of_lt_of_le hq h.1) hA).trans (h.2.1 q hq hA), h1.2.2⟩
theorem zD_put {X : zX} {A : Nat → Prop} {s : State} {fr : Bool} {k : Nat} {h : zH} {n a : Nat} {H H1 : Heap} {locs locs1 : List Loc} {e : va_E} (ha : a < n) (hDD : zD X A s fr k h n H locs)
    (hP : va_P (X.2.1, X.2.2.1) zCl ((zW X.2.2.2.1 X.2.2.2.2 h n).set a (X.2.2.2.1 a, zE X.2.2.2.1 X.2.2.2.2 e)) H1) (hD : va_D A ((zW X.2.2.2.1 X.2.2.2.2 h n).set a (X.2.2.2.1 a, zE X.2.2.2.1 X.2.2.2.2 e))) (hS : va_S A H H1 locs1) : zD X A s fr k (va_up h a e) n H1 locs1 := by
  rw [zW_set ha] at hP hD
  exact ⟨hP, hD, zS_tr hDD.2.2.1 hS, fun hf => ⟨Nat.le_trans (hDD.2.2.2 hf).1 hS.1, (hDD.2.2.2 hf).2⟩⟩
theorem zA_len (ad : Nat → Nat) (x : vp_A) : (zA ad x).1 = x.1 := by
  obtain ⟨n, f | f | f | f | f⟩ := x <;> rfl
/-- a field that an instruction names: its class and place -/
def zFd (own : String) (ix ci kf : Nat) : Prop := ∃ (C : String) (T : u_T) (N : Nat), zCl[ci]? = some (C, T, N) ∧ kf < N ∧ (∀ w ∈ u_ws C T N, w ∈ zWA) ∧ Cond.fieldLink own ix (T kf).1 (T kf).2.1 (T kf).2.2.1 ∈ zWA
def zFp (ci kf : Nat) (ty : FieldType) (fin : Bool) : Prop := ∀ (C : String) (T : u_T) (N : Nat), zCl[ci]? = some (C, T, N) → ∃ ty0 : Nat → FieldType, (∀ k, k < N → parseFieldDescriptor (T k).2.2.1 = some (ty0 k)) ∧ (∀ a, a < N → ∀ b, b < N → a ≠ b → (T a).2.1 ≠ (T b).2.1) ∧ (T kf).2.2.2 = fin ∧ parseFieldDescriptor (T kf).2.2.1 = some ty
end
section
section ZR
variable {X : zX} {R : Room} {M : zM} {Q : zQT} {fr : Bool} {k j : Nat} {h : zH} {n pc : Nat} {lv : List (Nat × Value)} {st : List Value}
theorem z_iconst {i : Int} {v : Int32} (hd : decode M.2.1 pc = .ok ((.iconst i), 1)) (hv : Int32.ofInt i = v) (kk : zJ X R M Q fr k j h n (pc + 1) lv (.int v :: st)) : zJ X R M Q fr k j h n pc lv (st) := by
  intro p e s m args below meth c A H locs ls hB hDD hL
  exact lv_iconst hB.1 hB.2.1 hd hv (kk p e s m args below meth c A H locs ls hB hDD hL)
theorem z_bipush {i : Int} {v : Int32} (hd : decode M.2.1 pc = .ok ((.bipush i), 2)) (hv : (Int8.ofInt i).toInt32 = v) (kk : zJ X R M Q fr k j h n (pc + 2) lv (.int v :: st)) : zJ X R M Q fr k j h n pc lv (st) := by
  intro p e s m args below meth c A H locs ls hB hDD hL
  exact lv_bipush hB.1 hB.2.1 hd hv (kk p e s m args below meth c A H locs ls hB hDD hL)
theorem z_sipush {i : Int} {v : Int32} (hd : decode M.2.1 pc = .ok ((.sipush i), 3)) (hv : (Int16.ofInt i).toInt32 = v) (kk : zJ X R M Q fr k j h n (pc + 3) lv (.int v :: st)) : zJ X R M Q fr k j h n pc lv (st) := by
  intro p e s m args below meth c A H locs ls hB hDD hL
  exact lv_sipush hB.1 hB.2.1 hd hv (kk p e s m args below meth c A H locs ls hB hDD hL)
theorem z_lconst {i : Fin 2} {v : Int64} (hd : decode M.2.1 pc = .ok ((.lconst i), 1)) (hv : Int64.ofNat (i : Nat) = v) (kk : zJ X R M Q fr k j h n (pc + 1) lv (.long v :: st)) : zJ X R M Q fr k j h n pc lv (st) := by
  intro p e s m args below meth c A H locs ls hB hDD hL
  exact lv_lconst hB.1 hB.2.1 hd hv (kk p e s m args below meth c A H locs ls hB hDD hL)
theorem z_iload_n {i : Fin 4} {x : Int32} (hd : decode M.2.1 pc = .ok (.iload_n i, 1)) (hl : lv.lookup (i : Nat) = some (.int x)) (kk : zJ X R M Q fr k j h n (pc + 1) lv (.int x :: st)) : zJ X R M Q fr k j h n pc lv st := by
  intro p e s m args below meth c A H locs ls hB hDD hL
  exact lv_iload_n hB.1 hB.2.1 hd rfl (zl_at hL hl) (kk p e s m args below meth c A H locs ls hB hDD hL)
theorem z_iload {i : Nat} {x : Int32} (hd : decode M.2.1 pc = .ok (.iload i, 2)) (hl : lv.lookup i = some (.int x)) (kk : zJ X R M Q fr k j h n (pc + 2) lv (.int x :: st)) : zJ X R M Q fr k j h n pc lv st := by
  intro p e s m args below meth c A H locs ls hB hDD hL
  exact lv_iload hB.1 hB.2.1 hd (zl_at hL hl) (kk p e s m args below meth c A H locs ls hB hDD hL)
theorem z_istore_n {i : Fin 4} {x : Int32} {lv' : List (Nat × Value)} (hd : decode M.2.1 pc = .ok (.istore_n i, 1)) (hi : (i : Nat) < M.2.2.1) (hl : zst i (.int x) lv = lv') (kk : zJ X R M Q fr k j h n (pc + 1) lv' st) : zJ X R M Q fr k j h n pc lv (.int x :: st) := by
  intro p e s m args below meth c A H locs ls hB hDD hL
  subst hl
  exact lv_istore_n hB.1 hB.2.1 hd rfl hL hi rfl (fun ls' hL' => kk p e s m args below meth c A H locs ls' hB hDD (zl_st1 (v := .int x) hL'))
theorem z_istore {i : Nat} {x : Int32} {lv' : List (Nat × Value)} (hd : decode M.2.1 pc = .ok (.istore i, 2)) (hi : (i : Nat) < M.2.2.1) (hl : zst i (.int x) lv = lv') (kk : zJ X R M Q fr k j h n (pc + 2) lv' st) : zJ X R M Q fr k j h n pc lv (.int x :: st) := by
  intro p e s m args below meth c A H locs ls hB hDD hL
  subst hl
  exact lv_istore hB.1 hB.2.1 hd hL hi rfl (fun ls' hL' => kk p e s m args below meth c A H locs ls' hB hDD (zl_st1 (v := .int x) hL'))
theorem z_lload_n {i : Fin 4} {x : Int64} (hd : decode M.2.1 pc = .ok (.lload_n i, 1)) (hl : lv.lookup (i : Nat) = some (.long x)) (kk : zJ X R M Q fr k j h n (pc + 1) lv (.long x :: st)) : zJ X R M Q fr k j h n pc lv st := by
  intro p e s m args below meth c A H locs ls hB hDD hL
  exact lv_lload_n hB.1 hB.2.1 hd rfl (zl_at hL hl) (kk p e s m args below meth c A H locs ls hB hDD hL)
theorem z_lload {i : Nat} {x : Int64} (hd : decode M.2.1 pc = .ok (.lload i, 2)) (hl : lv.lookup i = some (.long x)) (kk : zJ X R M Q fr k j h n (pc + 2) lv (.long x :: st)) : zJ X R M Q fr k j h n pc lv st := by
  intro p e s m args below meth c A H locs ls hB hDD hL
  exact lv_lload hB.1 hB.2.1 hd (zl_at hL hl) (kk p e s m args below meth c A H locs ls hB hDD hL)
theorem z_lstore_n {i : Fin 4} {x : Int64} {lv' : List (Nat × Value)} (hd : decode M.2.1 pc = .ok (.lstore_n i, 1)) (hi : (i : Nat) + 1 < M.2.2.1) (hl : zst i (.long x) lv = lv') (kk : zJ X R M Q fr k j h n (pc + 1) lv' st) : zJ X R M Q fr k j h n pc lv (.long x :: st) := by
  intro p e s m args below meth c A H locs ls hB hDD hL
  subst hl
  exact lv_lstore_n hB.1 hB.2.1 hd rfl hL hi rfl (fun ls' hL' => kk p e s m args below meth c A H locs ls' hB hDD (zl_st2 (v := .long x) rfl hL'))
theorem z_lstore {i : Nat} {x : Int64} {lv' : List (Nat × Value)} (hd : decode M.2.1 pc = .ok (.lstore i, 2)) (hi : (i : Nat) + 1 < M.2.2.1) (hl : zst i (.long x) lv = lv') (kk : zJ X R M Q fr k j h n (pc + 2) lv' st) : zJ X R M Q fr k j h n pc lv (.long x :: st) := by
  intro p e s m args below meth c A H locs ls hB hDD hL
  subst hl
  exact lv_lstore hB.1 hB.2.1 hd hL hi rfl (fun ls' hL' => kk p e s m args below meth c A H locs ls' hB hDD (zl_st2 (v := .long x) rfl hL'))
theorem z_aload_n {i : Fin 4} {x : Nat} (hd : decode M.2.1 pc = .ok (.aload_n i, 1)) (hl : lv.lookup (i : Nat) = some (.ref x)) (kk : zJ X R M Q fr k j h n (pc + 1) lv (.ref x :: st)) : zJ X R M Q fr k j h n pc lv st := by
  intro p e s m args below meth c A H locs ls hB hDD hL
  exact lv_aload_n hB.1 hB.2.1 hd rfl (zl_at hL hl) (kk p e s m args below meth c A H locs ls hB hDD hL)
theorem z_aload {i : Nat} {x : Nat} (hd : decode M.2.1 pc = .ok (.aload i, 2)) (hl : lv.lookup i = some (.ref x)) (kk : zJ X R M Q fr k j h n (pc + 2) lv (.ref x :: st)) : zJ X R M Q fr k j h n pc lv st := by
  intro p e s m args below meth c A H locs ls hB hDD hL
  exact lv_aload hB.1 hB.2.1 hd (zl_at hL hl) (kk p e s m args below meth c A H locs ls hB hDD hL)
theorem z_astore_n {i : Fin 4} {x : Nat} {lv' : List (Nat × Value)} (hd : decode M.2.1 pc = .ok (.astore_n i, 1)) (hi : (i : Nat) < M.2.2.1) (hl : zst i (.ref x) lv = lv') (kk : zJ X R M Q fr k j h n (pc + 1) lv' st) : zJ X R M Q fr k j h n pc lv (.ref x :: st) := by
  intro p e s m args below meth c A H locs ls hB hDD hL
  subst hl
  exact lv_astore_n hB.1 hB.2.1 hd rfl hL hi rfl (fun ls' hL' => kk p e s m args below meth c A H locs ls' hB hDD (zl_st1 (v := .ref x) hL'))
theorem z_astore {i : Nat} {x : Nat} {lv' : List (Nat × Value)} (hd : decode M.2.1 pc = .ok (.astore i, 2)) (hi : (i : Nat) < M.2.2.1) (hl : zst i (.ref x) lv = lv') (kk : zJ X R M Q fr k j h n (pc + 2) lv' st) : zJ X R M Q fr k j h n pc lv (.ref x :: st) := by
  intro p e s m args below meth c A H locs ls hB hDD hL
  subst hl
  exact lv_astore hB.1 hB.2.1 hd hL hi rfl (fun ls' hL' => kk p e s m args below meth c A H locs ls' hB hDD (zl_st1 (v := .ref x) hL'))
theorem z_iinc {i : Nat} {z : Int} {x v : Int32} {lv' : List (Nat × Value)} (hd : decode M.2.1 pc = .ok (.iinc i z, 3)) (hi : i < M.2.2.1) (hx : lv.lookup i = some (.int x)) (hv : x + Int32.ofInt z = v) (hl : zst i (.int v) lv = lv') (kk : zJ X R M Q fr k j h n (pc + 3) lv' st) : zJ X R M Q fr k j h n pc lv st := by
  intro p e s m args below meth c A H locs ls hB hDD hL
  subst hl
  obtain ⟨k0, hk0⟩ := zl_ix hx
  exact lv_iinc hB.1 hB.2.1 hd hL (k := k0) hk0 hv hi rfl (fun ls' hL' => kk p e s m args below meth c A H locs ls' hB hDD (zl_st1 (v := .int v) hL'))
theorem z_iadd {x y : Int32} (hd : decode M.2.1 pc = .ok (.iadd, 1)) (kk : zJ X R M Q fr k j h n (pc + 1) lv (.int (x + y) :: st)) : zJ X R M Q fr k j h n pc lv (.int y :: .int x :: st) := by
  intro p e s m args below meth c A H locs ls hB hDD hL
  exact lv_iadd hB.1 hB.2.1 hd  (kk p e s m args below meth c A H locs ls hB hDD hL)
theorem z_isub {x y : Int32} (hd : decode M.2.1 pc = .ok (.isub, 1)) (kk : zJ X R M Q fr k j h n (pc + 1) lv (.int (x - y) :: st)) : zJ X R M Q fr k j h n pc lv (.int y :: .int x :: st) := by
  intro p e s m args below meth c A H locs ls hB hDD hL
  exact lv_isub hB.1 hB.2.1 hd  (kk p e s m args below meth c A H locs ls hB hDD hL)
theorem z_imul {x y : Int32} (hd : decode M.2.1 pc = .ok (.imul, 1)) (kk : zJ X R M Q fr k j h n (pc + 1) lv (.int (x * y) :: st)) : zJ X R M Q fr k j h n pc lv (.int y :: .int x :: st) := by
  intro p e s m args below meth c A H locs ls hB hDD hL
  exact lv_imul hB.1 hB.2.1 hd  (kk p e s m args below meth c A H locs ls hB hDD hL)
theorem z_iand {x y : Int32} (hd : decode M.2.1 pc = .ok (.iand, 1)) (kk : zJ X R M Q fr k j h n (pc + 1) lv (.int (x &&& y) :: st)) : zJ X R M Q fr k j h n pc lv (.int y :: .int x :: st) := by
  intro p e s m args below meth c A H locs ls hB hDD hL
  exact lv_iand hB.1 hB.2.1 hd  (kk p e s m args below meth c A H locs ls hB hDD hL)
theorem z_ladd {x y : Int64} (hd : decode M.2.1 pc = .ok (.ladd, 1)) (kk : zJ X R M Q fr k j h n (pc + 1) lv (.long (x + y) :: st)) : zJ X R M Q fr k j h n pc lv (.long y :: .long x :: st) := by
  intro p e s m args below meth c A H locs ls hB hDD hL
  exact lv_ladd hB.1 hB.2.1 hd  (kk p e s m args below meth c A H locs ls hB hDD hL)
theorem z_land {x y : Int64} (hd : decode M.2.1 pc = .ok (.land, 1)) (kk : zJ X R M Q fr k j h n (pc + 1) lv (.long (x &&& y) :: st)) : zJ X R M Q fr k j h n pc lv (.long y :: .long x :: st) := by
  intro p e s m args below meth c A H locs ls hB hDD hL
  exact lv_land hB.1 hB.2.1 hd  (kk p e s m args below meth c A H locs ls hB hDD hL)
theorem z_lor {x y : Int64} (hd : decode M.2.1 pc = .ok (.lor, 1)) (kk : zJ X R M Q fr k j h n (pc + 1) lv (.long (x ||| y) :: st)) : zJ X R M Q fr k j h n pc lv (.long y :: .long x :: st) := by
  intro p e s m args below meth c A H locs ls hB hDD hL
  exact lv_lor hB.1 hB.2.1 hd  (kk p e s m args below meth c A H locs ls hB hDD hL)
theorem z_idiv {x y : Int32} (hd : decode M.2.1 pc = .ok (.idiv, 1)) (hne : ¬ y = 0) (kk : zJ X R M Q fr k j h n (pc + 1) lv (.int (x / y) :: st)) : zJ X R M Q fr k j h n pc lv (.int y :: .int x :: st) := by
  intro p e s m args below meth c A H locs ls hB hDD hL
  exact lv_idiv hB.1 hB.2.1 hd hne (kk p e s m args below meth c A H locs ls hB hDD hL)
theorem z_i2l {x : Int32} (hd : decode M.2.1 pc = .ok (.i2l, 1)) (kk : zJ X R M Q fr k j h n (pc + 1) lv (.long x.toInt64 :: st)) : zJ X R M Q fr k j h n pc lv (.int x :: st) := by
  intro p e s m args below meth c A H locs ls hB hDD hL
  exact lv_i2l hB.1 hB.2.1 hd rfl (kk p e s m args below meth c A H locs ls hB hDD hL)
theorem z_lshl {x : Int64} {y : Int32} (hd : decode M.2.1 pc = .ok (.lshl, 1)) (kk : zJ X R M Q fr k j h n (pc + 1) lv (.long (x <<< (y.toInt64 &&& 63)) :: st)) : zJ X R M Q fr k j h n pc lv (.int y :: .long x :: st) := by
  intro p e s m args below meth c A H locs ls hB hDD hL
  exact lv_lshl hB.1 hB.2.1 hd rfl (kk p e s m args below meth c A H locs ls hB hDD hL)
theorem z_lcmp {x y : Int64} (hd : decode M.2.1 pc = .ok (.lcmp, 1)) (kk : zJ X R M Q fr k j h n (pc + 1) lv (.int (lg_cmp x y) :: st)) : zJ X R M Q fr k j h n pc lv (.long y :: .long x :: st) := by
  intro p e s m args below meth c A H locs ls hB hDD hL
  exact W.lcmp hB.1 hB.2.1 hd  (kk p e s m args below meth c A H locs ls hB hDD hL)
theorem z_dup {v : Value} (hd : decode M.2.1 pc = .ok (.dup, 1)) (hc : v.category = 1) (kk : zJ X R M Q fr k j h n (pc + 1) lv (v :: v :: st)) : zJ X R M Q fr k j h n pc lv (v :: st) := by
  intro p e s m args below meth c A H locs ls hB hDD hL
  exact lv_dup hB.1 hB.2.1 hd ((zV_cat _ _).trans hc) (kk p e s m args below meth c A H locs ls hB hDD hL)
theorem z_pop {v : Value} (hd : decode M.2.1 pc = .ok (.pop, 1)) (hc : v.category = 1) (kk : zJ X R M Q fr k j h n (pc + 1) lv (st)) : zJ X R M Q fr k j h n pc lv (v :: st) := by
  intro p e s m args below meth c A H locs ls hB hDD hL
  exact lv_pop hB.1 hB.2.1 hd ((zV_cat _ _).trans hc) (kk p e s m args below meth c A H locs ls hB hDD hL)
theorem z_dup_x1 {v w : Value} (hd : decode M.2.1 pc = .ok (.dup_x1, 1)) (hc : v.category = 1) (hc2 : w.category = 1) (kk : zJ X R M Q fr k j h n (pc + 1) lv (v :: w :: v :: st)) : zJ X R M Q fr k j h n pc lv (v :: w :: st) := by
  intro p e s m args below meth c A H locs ls hB hDD hL
  exact lv_dup_x1 hB.1 hB.2.1 hd ((zV_cat _ _).trans hc) ((zV_cat _ _).trans hc2) (kk p e s m args below meth c A H locs ls hB hDD hL)
theorem z_dup2 {v w : Value} (hd : decode M.2.1 pc = .ok (.dup2, 1)) (hc : v.category = 1) (hc2 : w.category = 1) (kk : zJ X R M Q fr k j h n (pc + 1) lv (v :: w :: v :: w :: st)) : zJ X R M Q fr k j h n pc lv (v :: w :: st) := by
  intro p e s m args below meth c A H locs ls hB hDD hL
  exact lv_dup2_11 hB.1 hB.2.1 hd ((zV_cat _ _).trans hc) ((zV_cat _ _).trans hc2) (kk p e s m args below meth c A H locs ls hB hDD hL)
theorem z_if_eq {x : Int32} {off : Int} (hd : decode M.2.1 pc = .ok (.ifCond .eq off, 3)) (tgt : Nat) (ht : (pc : Int) + off = (tgt : Int)) (kt : x = 0 → zJ X R M Q fr k j h n tgt lv st) (kf : ¬ x = 0 → zJ X R M Q fr k j h n (pc + 3) lv st) : zJ X R M Q fr k j h n pc lv (.int x :: st) := by
  intro p e s m args below meth c A H locs ls hB hDD hL
  exact lv_if_eq hB.1 hB.2.1 hd ht (fun hh => kt hh p e s m args below meth c A H locs ls hB hDD hL) (fun hh => kf hh p e s m args below meth c A H locs ls hB hDD hL)
theorem z_icmp_eq {x y : Int32} {off : Int} (hd : decode M.2.1 pc = .ok (.if_icmp .eq off, 3)) (tgt : Nat) (ht : (pc : Int) + off = (tgt : Int)) (kt : x = y → zJ X R M Q fr k j h n tgt lv st) (kf : ¬ x = y → zJ X R M Q fr k j h n (pc + 3) lv st) : zJ X R M Q fr k j h n pc lv (.int y :: .int x :: st) := by
  intro p e s m args below meth c A H locs ls hB hDD hL
  exact lv_icmp_eq hB.1 hB.2.1 hd ht (fun hh => kt hh p e s m args below meth c A H locs ls hB hDD hL) (fun hh => kf hh p e s m args below meth c A H locs ls hB hDD hL)
theorem z_if_ne {x : Int32} {off : Int} (hd : decode M.2.1 pc = .ok (.ifCond .ne off, 3)) (tgt : Nat) (ht : (pc : Int) + off = (tgt : Int)) (kt : ¬ x = 0 → zJ X R M Q fr k j h n tgt lv st) (kf : x = 0 → zJ X R M Q fr k j h n (pc + 3) lv st) : zJ X R M Q fr k j h n pc lv (.int x :: st) := by
  intro p e s m args below meth c A H locs ls hB hDD hL
  exact lv_if_ne hB.1 hB.2.1 hd ht (fun hh => kt hh p e s m args below meth c A H locs ls hB hDD hL) (fun hh => kf hh p e s m args below meth c A H locs ls hB hDD hL)
theorem z_icmp_ne {x y : Int32} {off : Int} (hd : decode M.2.1 pc = .ok (.if_icmp .ne off, 3)) (tgt : Nat) (ht : (pc : Int) + off = (tgt : Int)) (kt : ¬ x = y → zJ X R M Q fr k j h n tgt lv st) (kf : x = y → zJ X R M Q fr k j h n (pc + 3) lv st) : zJ X R M Q fr k j h n pc lv (.int y :: .int x :: st) := by
  intro p e s m args below meth c A H locs ls hB hDD hL
  exact lv_icmp_ne hB.1 hB.2.1 hd ht (fun hh => kt hh p e s m args below meth c A H locs ls hB hDD hL) (fun hh => kf hh p e s m args below meth c A H locs ls hB hDD hL)
theorem z_if_lt {x : Int32} {off : Int} (hd : decode M.2.1 pc = .ok (.ifCond .lt off, 3)) (tgt : Nat) (ht : (pc : Int) + off = (tgt : Int)) (kt : x < 0 → zJ X R M Q fr k j h n tgt lv st) (kf : ¬ x < 0 → zJ X R M Q fr k j h n (pc + 3) lv st) : zJ X R M Q fr k j h n pc lv (.int x :: st) := by
  intro p e s m args below meth c A H locs ls hB hDD hL
  exact lv_if_lt hB.1 hB.2.1 hd ht (fun hh => kt hh p e s m args below meth c A H locs ls hB hDD hL) (fun hh => kf hh p e s m args below meth c A H locs ls hB hDD hL)
theorem z_icmp_lt {x y : Int32} {off : Int} (hd : decode M.2.1 pc = .ok (.if_icmp .lt off, 3)) (tgt : Nat) (ht : (pc : Int) + off = (tgt : Int)) (kt : x < y → zJ X R M Q fr k j h n tgt lv st) (kf : ¬ x < y → zJ X R M Q fr k j h n (pc + 3) lv st) : zJ X R M Q fr k j h n pc lv (.int y :: .int x :: st) := by
  intro p e s m args below meth c A H locs ls hB hDD hL
  exact lv_icmp_lt hB.1 hB.2.1 hd ht (fun hh => kt hh p e s m args below meth c A H locs ls hB hDD hL) (fun hh => kf hh p e s m args below meth c A H locs ls hB hDD hL)
theorem z_if_ge {x : Int32} {off : Int} (hd : decode M.2.1 pc = .ok (.ifCond .ge off, 3)) (tgt : Nat) (ht : (pc : Int) + off = (tgt : Int)) (kt : 0 ≤ x → zJ X R M Q fr k j h n tgt lv st) (kf : ¬ 0 ≤ x → zJ X R M Q fr k j h n (pc + 3) lv st) : zJ X R M Q fr k j h n pc lv (.int x :: st) := by
  intro p e s m args below meth c A H locs ls hB hDD hL
  exact lv_if_ge hB.1 hB.2.1 hd ht (fun hh => kt hh p e s m args below meth c A H locs ls hB hDD hL) (fun hh => kf hh p e s m args below meth c A H locs ls hB hDD hL)
theorem z_icmp_ge {x y : Int32} {off : Int} (hd : decode M.2.1 pc = .ok (.if_icmp .ge off, 3)) (tgt : Nat) (ht : (pc : Int) + off = (tgt : Int)) (kt : y ≤ x → zJ X R M Q fr k j h n tgt lv st) (kf : ¬ y ≤ x → zJ X R M Q fr k j h n (pc + 3) lv st) : zJ X R M Q fr k j h n pc lv (.int y :: .int x :: st) := by
  intro p e s m args below meth c A H locs ls hB hDD hL
  exact lv_icmp_ge hB.1 hB.2.1 hd ht (fun hh => kt hh p e s m args below meth c A H locs ls hB hDD hL) (fun hh => kf hh p e s m args below meth c A H locs ls hB hDD hL)
theorem z_if_gt {x : Int32} {off : Int} (hd : decode M.2.1 pc = .ok (.ifCond .gt off, 3)) (tgt : Nat) (ht : (pc : Int) + off = (tgt : Int)) (kt : 0 < x → zJ X R M Q fr k j h n tgt lv st) (kf : ¬ 0 < x → zJ X R M Q fr k j h n (pc + 3) lv st) : zJ X R M Q fr k j h n pc lv (.int x :: st) := by
  intro p e s m args below meth c A H locs ls hB hDD hL
  exact lv_if_gt hB.1 hB.2.1 hd ht (fun hh => kt hh p e s m args below meth c A H locs ls hB hDD hL) (fun hh => kf hh p e s m args below meth c A H locs ls hB hDD hL)
theorem z_icmp_gt {x y : Int32} {off : Int} (hd : decode M.2.1 pc = .ok (.if_icmp .gt off, 3)) (tgt : Nat) (ht : (pc : Int) + off = (tgt : Int)) (kt : y < x → zJ X R M Q fr k j h n tgt lv st) (kf : ¬ y < x → zJ X R M Q fr k j h n (pc + 3) lv st) : zJ X R M Q fr k j h n pc lv (.int y :: .int x :: st) := by
  intro p e s m args below meth c A H locs ls hB hDD hL
  exact lv_icmp_gt hB.1 hB.2.1 hd ht (fun hh => kt hh p e s m args below meth c A H locs ls hB hDD hL) (fun hh => kf hh p e s m args below meth c A H locs ls hB hDD hL)
theorem z_if_le {x : Int32} {off : Int} (hd : decode M.2.1 pc = .ok (.ifCond .le off, 3)) (tgt : Nat) (ht : (pc : Int) + off = (tgt : Int)) (kt : x ≤ 0 → zJ X R M Q fr k j h n tgt lv st) (kf : ¬ x ≤ 0 → zJ X R M Q fr k j h n (pc + 3) lv st) : zJ X R M Q fr k j h n pc lv (.int x :: st) := by
  intro p e s m args below meth c A H locs ls hB hDD hL
  exact lv_if_le hB.1 hB.2.1 hd ht (fun hh => kt hh p e s m args below meth c A H locs ls hB hDD hL) (fun hh => kf hh p e s m args below meth c A H locs ls hB hDD hL)
theorem z_icmp_le {x y : Int32} {off : Int} (hd : decode M.2.1 pc = .ok (.if_icmp .le off, 3)) (tgt : Nat) (ht : (pc : Int) + off = (tgt : Int)) (kt : x ≤ y → zJ X R M Q fr k j h n tgt lv st) (kf : ¬ x ≤ y → zJ X R M Q fr k j h n (pc + 3) lv st) : zJ X R M Q fr k j h n pc lv (.int y :: .int x :: st) := by
  intro p e s m args below meth c A H locs ls hB hDD hL
  exact lv_icmp_le hB.1 hB.2.1 hd ht (fun hh => kt hh p e s m args below meth c A H locs ls hB hDD hL) (fun hh => kf hh p e s m args below meth c A H locs ls hB hDD hL)
theorem z_goto {off : Int} (hd : decode M.2.1 pc = .ok (.goto off, 3)) (tgt : Nat) (ht : (pc : Int) + off = (tgt : Int)) (kk : zJ X R M Q fr k j h n tgt lv st) : zJ X R M Q fr k j h n pc lv st := by
  intro p e s m args below meth c A H locs ls hB hDD hL
  exact lv_goto hB.1 hB.2.1 hd ht (kk p e s m args below meth c A H locs ls hB hDD hL)
theorem z_tableIn {dflt lo hi : Int} {offs : Array Int} {len : Nat} {x : Int32} {off : Int} (hd : decode M.2.1 pc = .ok (.tableswitch dflt lo hi offs, len)) (tgt : Nat) (h1 : ¬ x.toInt < lo) (h2 : ¬ hi < x.toInt) (ho : offs[(x.toInt - lo).toNat]? = some off) (ht : (pc : Int) + off = (tgt : Int)) (kk : zJ X R M Q fr k j h n tgt lv st) : zJ X R M Q fr k j h n pc lv (.int x :: st) := by
  intro p e s m args below meth c A H locs ls hB hDD hL
  exact lv_tableIn hB.1 hB.2.1 hd h1 h2 ho ht (kk p e s m args below meth c A H locs ls hB hDD hL)
theorem z_tableOut {dflt lo hi : Int} {offs : Array Int} {len : Nat} {x : Int32} (hd : decode M.2.1 pc = .ok (.tableswitch dflt lo hi offs, len)) (tgt : Nat) (h1 : x.toInt < lo ∨ hi < x.toInt) (ht : (pc : Int) + dflt = (tgt : Int)) (kk : zJ X R M Q fr k j h n tgt lv st) : zJ X R M Q fr k j h n pc lv (.int x :: st) := by
  intro p e s m args below meth c A H locs ls hB hDD hL
  exact lv_tableOut hB.1 hB.2.1 hd h1 ht (kk p e s m args below meth c A H locs ls hB hDD hL)
theorem z_lookup {dflt : Int} {ps : Array (Int × Int)} {len : Nat} {x : Int32} {off : Int} (hd : decode M.2.1 pc = .ok (.lookupswitch dflt ps, len)) (tgt : Nat) (hp : (ps.toList.zip (ps.toList.drop 1)).all (fun (a, next) => a.1 < next.1) = true) (ho : Op.lookupswitch.offset ps.toList dflt x.toInt = off) (ht : (pc : Int) + off = (tgt : Int)) (kk : zJ X R M Q fr k j h n tgt lv st) : zJ X R M Q fr k j h n pc lv (.int x :: st) := by
  intro p e s m args below meth c A H locs ls hB hDD hL
  exact lv_lookup hB.1 hB.2.1 hd hp ho ht (kk p e s m args below meth c A H locs ls hB hDD hL)
theorem z_ldc {ix : Nat} {v : Int32} (hd : decode M.2.1 pc = .ok (.ldc ix, 2)) (hw : Cond.constant M.1.cls ix v ∈ zWA) (kk : zJ X R M Q fr k j h n (pc + 2) lv (.int v :: st)) : zJ X R M Q fr k j h n pc lv st := by
  intro p e s m args below meth c A H locs ls hB hDD hL
  exact lv_ldc hB.1 hB.2.1 hB.own (hB.word hw) hd (kk p e s m args below meth c A H locs ls hB hDD hL)
theorem z_ldc2 {ix : Nat} {v : Int64} (hd : decode M.2.1 pc = .ok (.ldc2_w ix, 3)) (hw : Cond.constantLong M.1.cls ix v ∈ zWA) (kk : zJ X R M Q fr k j h n (pc + 3) lv (.long v :: st)) : zJ X R M Q fr k j h n pc lv st := by
  intro p e s m args below meth c A H locs ls hB hDD hL
  exact lv_ldc2 hB.1 hB.2.1 hB.own (hB.word hw) hd (kk p e s m args below meth c A H locs ls hB hDD hL)
theorem z_get {ix ci kf a : Nat} {fs : List Value} {v : Value} (hd : decode M.2.1 pc = .ok (.getfield ix, 3)) (f : zFd M.1.cls ix ci kf) (ha : a < n) (hc : h a = .inr (ci, fs)) (hv : fs[kf]? = some v) (kk : zJ X R M Q fr k j h n (pc + 3) lv (v :: st)) : zJ X R M Q fr k j h n pc lv (.ref a :: st) := by
  intro p e s m args below meth c A H locs ls hB hDD hL
  obtain ⟨C, T, N, f1, f2, f3, f4⟩ := f
  exact va_get (ci := ci) (v := zV X.2.2.2.1 v) hB.1 hB.2.1 hB.words f3 hB.own hB.kinds hDD.1 a (fs := fs.map (zV X.2.2.2.1)) (by rw [zW_get ha, hc]; rfl) f1 kf f2 (hB.word f4) (fun _ h9 => h9) (by rw [List.getElem?_map, hv]; rfl) hd (kk p e s m args below meth c A H locs ls hB hDD hL)
theorem z_put {ix ci kf a : Nat} {fs : List Value} {v : Value} {ty : FieldType} {h' : zH} (hd : decode M.2.1 pc = .ok (.putfield ix, 3)) (f : zFd M.1.cls ix ci kf) (fp : zFp ci kf ty false) (ha : a < n) (hc : h a = .inr (ci, fs)) (hl : kf < fs.length) (hw : narrow ty (zV X.2.2.2.1 v) = zV X.2.2.2.1 v) (hft : fits ty (zV X.2.2.2.1 v) = true) (hh : va_up h a (.inr (ci, fs.set kf v)) = h')
    (kk : zJ X R M Q fr k j h' n (pc + 3) lv st) : zJ X R M Q fr k j h n pc lv (v :: .ref a :: st) := by
  intro p e s m args below meth c A H locs ls hB hDD hL
  subst hh
  obtain ⟨C, T, N, f1, f2, f3, f4⟩ := f
  obtain ⟨ty0, g1, g2, g3, g4⟩ := fp C T N f1
  refine va_put (ci := ci) (v := zV X.2.2.2.1 v) (ty := ty) hB.1 hB.2.1 hB.words f3 ty0 g1 g2 hB.own hB.kinds hDD.1 hDD.2.1 (zS_self hDD.2.2.1) a (fs := fs.map (zV X.2.2.2.1)) (by rw [zW_get ha, hc]; rfl) f1 kf f2 (hB.word f4) (fun _ h9 => h9) g3 g4 hw hft (by simpa using hl) hd (fun H1 locs1 hP hD hS => ?_)
  rw [← List.map_set] at hP hD
  exact kk p e s m args below meth c A H1 locs1 ls hB (zD_put ha hDD hP hD hS) hL
theorem z_putF {ix ci kf a : Nat} {fs : List Value} {v : Value} {ty : FieldType} {h' : zH} (hd : decode M.2.1 pc = .ok (.putfield ix, 3)) (f : zFd M.1.cls ix ci kf) (fp : zFp ci kf ty true) (hi : M.1.name = "<init>") (ho : ∀ q, zCl[ci]? = some q → (q.2.1 kf).1 = M.1.cls) (ha : a < n) (hc : h a = .inr (ci, fs)) (hl : kf < fs.length) (hw : narrow ty (zV X.2.2.2.1 v) = zV X.2.2.2.1 v) (hft : fits ty (zV X.2.2.2.1 v) = true) (hh : va_up h a (.inr (ci, fs.set kf v)) = h')
    (kk : zJ X R M Q fr k j h' n (pc + 3) lv st) : zJ X R M Q fr k j h n pc lv (v :: .ref a :: st) := by
  intro p e s m args below meth c A H locs ls hB hDD hL
  subst hh
  obtain ⟨C, T, N, f1, f2, f3, f4⟩ := f
  obtain ⟨ty0, g1, g2, g3, g4⟩ := fp C T N f1
  refine va_putF (ci := ci) (v := zV X.2.2.2.1 v) (ty := ty) hB.1 hB.2.1 hB.words f3 ty0 g1 g2 hB.own hB.kinds hDD.1 hDD.2.1 (zS_self hDD.2.2.1) a (fs := fs.map (zV X.2.2.2.1)) (by rw [zW_get ha, hc]; rfl) f1 kf f2 (hB.word f4) (fun _ h9 => h9) g3 (hB.mname.trans hi) (ho _ f1) g4 hw hft (by simpa using hl) hd (fun H1 locs1 hP hD hS => ?_)
  rw [← List.map_set] at hP hD
  exact kk p e s m args below meth c A H1 locs1 ls hB (zD_put ha hDD hP hD hS) hL
theorem z_iald {a len t : Nat} {f : Nat → Int32} {i : Int32} (hd : decode M.2.1 pc = .ok (.iaload, 1)) (ha : a < n) (hc : h a = .inl (0, len, .inl f)) (hi : zin i t len) (kk : zJ X R M Q fr k j h n (pc + 1) lv (.int (f t) :: st)) : zJ X R M Q fr k j h n pc lv (.int i :: .ref a :: st) := by
  intro p e s m args below meth c A H locs ls hB hDD hL
  have h9 := kk p e s m args below meth c A H locs ls hB hDD hL
  rw [← hi.cl] at h9
  exact va_iald hB.1 hB.2.1 hB.kinds hDD.1 a 0 (by rw [zW_get ha, hc]; rfl) rfl hi.vp hd h9
theorem z_lald {a len t : Nat} {f : Nat → Int64} {i : Int32} (hd : decode M.2.1 pc = .ok (.laload, 1)) (ha : a < n) (hc : h a = .inl (1, len, .inr (.inl f))) (hi : zin i t len) (kk : zJ X R M Q fr k j h n (pc + 1) lv (.long (f t) :: st)) : zJ X R M Q fr k j h n pc lv (.int i :: .ref a :: st) := by
  intro p e s m args below meth c A H locs ls hB hDD hL
  have h9 := kk p e s m args below meth c A H locs ls hB hDD hL
  rw [← hi.cl] at h9
  exact va_lald hB.1 hB.2.1 hB.kinds hDD.1 a 1 (by rw [zW_get ha, hc]; rfl) rfl hi.vp hd h9
theorem z_zald {a len t : Nat} {f : Nat → Int32} {i : Int32} (hd : decode M.2.1 pc = .ok (.baload, 1)) (ha : a < n) (hc : h a = .inl (2, len, .inl f)) (hi : zin i t len) (kk : zJ X R M Q fr k j h n (pc + 1) lv (.int (f t) :: st)) : zJ X R M Q fr k j h n pc lv (.int i :: .ref a :: st) := by
  intro p e s m args below meth c A H locs ls hB hDD hL
  have h9 := kk p e s m args below meth c A H locs ls hB hDD hL
  rw [← hi.cl] at h9
  exact va_zald hB.1 hB.2.1 hB.kinds hDD.1 a 2 (by rw [zW_get ha, hc]; rfl) rfl hi.vp hd h9
theorem z_iast {a len t : Nat} {f : Nat → Int32} {i : Int32} {x : Int32} {h' : zH} (hd : decode M.2.1 pc = .ok (.iastore, 1)) (ha : a < n) (hc : h a = .inl (0, len, .inl f)) (hi : zin i t len) (hh : va_up h a (.inl (0, len, .inl (upd f t x))) = h') (kk : zJ X R M Q fr k j h' n (pc + 1) lv st) : zJ X R M Q fr k j h n pc lv (.int x :: .int i :: .ref a :: st) := by
  intro p e s m args below meth c A H locs ls hB hDD hL
  subst hh
  refine va_iast hB.1 hB.2.1 hB.kinds hDD.1 hDD.2.1 (zS_self hDD.2.2.1) a 0 (by rw [zW_get ha, hc]; rfl) rfl hi.vp hd (fun H1 locs1 hP hD hS => ?_)
  rw [hi.cl] at hP hD
  exact kk p e s m args below meth c A H1 locs1 ls hB (zD_put ha hDD hP hD hS) hL
theorem z_last {a len t : Nat} {f : Nat → Int64} {i : Int32} {x : Int64} {h' : zH} (hd : decode M.2.1 pc = .ok (.lastore, 1)) (ha : a < n) (hc : h a = .inl (1, len, .inr (.inl f))) (hi : zin i t len) (hh : va_up h a (.inl (1, len, .inr (.inl (vp_updL f t x)))) = h') (kk : zJ X R M Q fr k j h' n (pc + 1) lv st) : zJ X R M Q fr k j h n pc lv (.long x :: .int i :: .ref a :: st) := by
  intro p e s m args below meth c A H locs ls hB hDD hL
  subst hh
  refine va_last hB.1 hB.2.1 hB.kinds hDD.1 hDD.2.1 (zS_self hDD.2.2.1) a 1 (by rw [zW_get ha, hc]; rfl) rfl hi.vp hd (fun H1 locs1 hP hD hS => ?_)
  rw [hi.cl] at hP hD
  exact kk p e s m args below meth c A H1 locs1 ls hB (zD_put ha hDD hP hD hS) hL
theorem z_zast {a len t : Nat} {f : Nat → Int32} {i : Int32} {x : Int32} {h' : zH} (hd : decode M.2.1 pc = .ok (.bastore, 1)) (ha : a < n) (hc : h a = .inl (2, len, .inl f)) (hi : zin i t len) (hx : vp_nar .boolean x = x) (hh : va_up h a (.inl (2, len, .inl (upd f t x))) = h') (kk : zJ X R M Q fr k j h' n (pc + 1) lv st) : zJ X R M Q fr k j h n pc lv (.int x :: .int i :: .ref a :: st) := by
  intro p e s m args below meth c A H locs ls hB hDD hL
  subst hh
  refine va_zast hB.1 hB.2.1 hB.kinds hDD.1 hDD.2.1 (zS_self hDD.2.2.1) a 2 (by rw [zW_get ha, hc]; rfl) rfl hi.vp hd (fun H1 locs1 hP hD hS => ?_)
  rw [hi.cl, hx] at hP hD
  exact kk p e s m args below meth c A H1 locs1 ls hB (zD_put ha hDD hP hD hS) hL
theorem z_aald {a len t r tc : Nat} {g : Nat → Option Nat} {C : String} {i : Int32} (hd : decode M.2.1 pc = .ok (.aaload, 1)) (ha : a < n) (hc : h a = .inl (tc, len, .inr (.inr (.inr (.inr g))))) (ht : (zT X.2.2.2.2)[tc]? = some (X.2.2.2.2 tc, .object C)) (hi : zin i t len) (hg : g t = some r) (kk : zJ X R M Q fr k j h n (pc + 1) lv (.ref r :: st)) : zJ X R M Q fr k j h n pc lv (.int i :: .ref a :: st) := by
  intro p e s m args below meth c A H locs ls hB hDD hL
  have h9 := kk p e s m args below meth c A H locs ls hB hDD hL
  refine va_aldq (f := fun i => (g i).map X.2.2.2.1) hB.1 hB.2.1 hB.kinds hDD.1 a tc (by rw [zW_get ha, hc]; rfl) ht hi.vp hd ?_
  rw [hi.cl, hg]
  exact h9
theorem z_alen {a tc : Nat} {x : vp_A} {ty : FieldType} {v : Int32} (hd : decode M.2.1 pc = .ok (.arraylength, 1)) (ha : a < n) (hc : h a = .inl (tc, x)) (ht : (zT X.2.2.2.2)[tc]? = some (X.2.2.2.2 tc, ty)) (hv : Int32.ofNat x.1 = v) (kk : zJ X R M Q fr k j h n (pc + 1) lv (.int v :: st)) : zJ X R M Q fr k j h n pc lv (.ref a :: st) := by
  intro p e s m args below meth c A H locs ls hB hDD hL
  exact va_alen (x := zA X.2.2.2.1 x) hB.1 hB.2.1 hB.kinds hDD.1 a tc (by rw [zW_get ha, hc]; rfl) ht (by rw [zA_len]; exact hv) hd (kk p e s m args below meth c A H locs ls hB hDD hL)
end ZR
end
section
/-! contracts out of walks, calls, ends -/
theorem zlg_len (ad : Nat → Nat) : ∀ av : List Value, (lg_sl (av.map (zV ad))).length = (lg_sl av).length
  | [] => rfl
  | v :: vs => by
    have h := zlg_len ad vs
    simp only [lg_sl, List.map_cons, List.flatMap_cons, List.length_append] at h ⊢
    rw [zV_cat, h]
    split <;> rfl
/-- a contract, out of a walk of the method's body -/
theorem zC_of {X : zX} {d : Nat} {M : zM} {mc ms : Nat} {fr : Bool} {av : List Value} {h : zH} {n : Nat} {v : Option Value} {hf : zH} {nf : Nat} (hy : plainName M.1.cls = true) (hlen : (lg_sl av).length ≤ M.2.2.1) (hJ : zJ X (zR d mc ms) M (zRet X mc ms fr v hf nf) fr 0 0 h n 0 (lv_args 0 av) []) : zC X d M mc ms fr av h n v hf nf := by
  intro sz
  refine Met.ofW (cc := M.2.1) (maxL := M.2.2.1) (ret := M.2.2.2) hy rfl ?_
  intro p e s m args below meth c s₁ B hml hv
  obtain ⟨rfl, hsz, hP, hK, hD0, hst, hfr⟩ := hv
  subst hsz
  have hl := lv_entry (av.map (zV X.2.2.2.1)) (n := M.2.2.1) (by rw [zlg_len]; exact hlen)
  rw [lg_entry_eq]
  rw [zlv_map] at hl
  have hpre := atoms_spec (ws := zws M) B.pre
  have hT : ∀ x ∈ c.exceptionTable.toList, False := by
    have h7 := BodyLoose.noHandlers B (hpre _ List.mem_cons_self)
    intro x hx
    rw [Array.isEmpty_iff.mp h7] at hx
    cases hx
  exact hJ p e s m _ below meth c _ s.heap [] _ ⟨B.exec, B.bytes, hml, B.returns, B.notSynchronized, fun w hw => hpre w (List.mem_cons_of_mem _ hw), findClass_of_methodNamed B.named, (name_of_methodNamed B.named B.method).1, hT, hK, hst, fun q h => Or.inr h⟩
    ⟨hP, hD0.self, va_S.rf, fun hf => ⟨Nat.le_of_eq (hfr hf).symm, (hfr hf).symm⟩⟩ hl
section ZK
variable {p : Program} {l : Launch} {e : Env} {R : Room} {s : State} {m : MethodId} {args : Array Value} {below : List Frame} {meth : Method} {c : Code} {H : Heap} {locs : List Loc} {cells slots : Nat} {Q : State → Prop} {g : JFrame}
theorem zW_sz (kk : H.size ≤ s.heap.size + cells → W p l e R s m args below meth c H locs cells slots Q g) : W p l e R s m args below meth c H locs cells slots Q g :=
  fun T hT Y => kk (by have h9 := Y.heapSize; rw [hT] at h9; omega) T hT Y
end ZK
section ZC
variable {X : zX} {R : Room} {M : zM} {Q : zQT} {fr : Bool} {k j : Nat} {h : zH} {n pc : Nat} {lv : List (Nat × Value)} {st : List Value}
variable {p : Program} {e : Env} {s : State} {m : MethodId} {args : Array Value} {below : List Frame} {meth : Method} {c : Code} {A : Nat → Prop} {H : Heap} {locs : List Loc} {ls : Array Slot}
theorem zc_in (hDD : zD X A s fr k h n H locs) (hB : zB X M p s m args meth c A) : ∀ q, va_A (zW X.2.2.2.1 X.2.2.2.2 h n) H.size q → A q := by
  intro q hq
  rcases hq with ⟨i, e9, hi⟩ | hq
  · exact hDD.2.1.2 i (q, e9) hi
  · exact hB.hA q (Nat.le_trans hDD.2.2.1.1 hq)
theorem zc_pre (hDD : zD X A s fr k h n H locs) (hB : zB X M p s m args meth c A) (hsz : H.size ≤ s.heap.size + k) (av : List Value) : PreS s H (zPc X fr av h n H.size) (av.map (zV X.2.2.2.1)) := by
  refine ⟨fun a U g mk q => ?_, fun U hU hW => ?_⟩
  · obtain ⟨q0, q1, qP, qK, qD, qS, qf⟩ := q
    exact ⟨q0, q1, qP, va_K.moved (u := U) (U := U.calling g mk a) (Vm.Alike.refl U.vm) qK, qD, zS_same (U := U) (U' := U.calling g mk a) rfl rfl qS, qf⟩
  · refine ⟨rfl, by rw [hU], by rw [hU]; exact hDD.1, va_K.moved hW.alike hB.kinds, hDD.2.1.weaken (fun _ _ _ _ => trivial), ?_, fun hf => ?_⟩
    · rw [hU]
      exact zS_move hW (zc_in hDD hB) hDD.2.2.1 hB.stat
    · obtain ⟨h1, h2⟩ := hDD.2.2.2 hf
      omega
theorem zc_keep {st₀ t T' : State} {L : List Loc} (hB : zB X M p s m args meth c A) (hDD : zD X A s fr k h n H locs) (h0 : st₀.heap = H) (e1 : T'.heap = t.heap) (hL : ∀ q ∈ L, va_A (zW X.2.2.2.1 X.2.2.2.2 h n) H.size q.base) (hF : va_F (va_A (zW X.2.2.2.1 X.2.2.2.2 h n) H.size) st₀ t) : va_S A s.heap T'.heap (locs ++ L) := by
  obtain ⟨f1, f2⟩ := hF
  rw [h0] at f1 f2
  refine zS_tr hDD.2.2.1 ⟨by rw [e1]; exact f1, fun q hq hA => ?_, fun q hq => ?_⟩
  · rw [e1]
    exact f2 q hq (fun h9 => hA (zc_in hDD hB q h9))
  · rcases List.mem_append.mp hq with h9 | h9
    · exact hDD.2.2.1.2.2 q h9
    · exact zc_in hDD hB _ (hL q h9)
theorem zc_go {mc' ms' n' : Nat} {v : Option Value} {h' : zH} {a : Array Value} {stc : List Value} (hB : zB X M p s m args meth c A) (hDD : zD X A s fr k h n H locs) (hL : lv_has ls M.2.2.1 (lv.map fun q => (q.1, zV X.2.2.2.1 q.2)))
    (hr : va_Run p X.1 e R s m args below meth c H locs k j mc' ms' (F0 m pc ls stc) (st.map (zV X.2.2.2.1)) (zQ X (va_A (zW X.2.2.2.1 X.2.2.2.2 h n) H.size) fr v h' n' a) (va_A (zW X.2.2.2.1 X.2.2.2.2 h n) H.size))
    (hn : fr = true → X.2.2.2.1 n' = X.2.2.2.1 n + mc') (kk : zJ X R M Q fr (k + mc') (j + ms') h' n' (pc + 3) lv (v.toList ++ st)) :
    W p X.1 e R s m args below meth c H locs k j (Q A below args s) (F0 m pc ls stc) := by
  intro T hT X0
  obtain ⟨v9, st0, t, T', L, h0, X', hL9, e1, e2, ⟨hv9, hP, hD, hF, hz⟩, stp⟩ := hr T hT X0
  cases hv9
  obtain ⟨t2, a1, b1⟩ := kk p e s m args below meth c A T'.heap (locs ++ L) ls hB ⟨by rw [e1]; exact hP, hD.weaken (fun _ _ _ h9 => zc_in hDD hB _ h9), zc_keep hB hDD h0 e1 hL9 hF, fun hf => ⟨by rw [e1]; exact hz hf, by rw [hn hf, (hDD.2.2.2 hf).2]; omega⟩⟩ hL T' rfl X'
  refine ⟨t2, stp t2 ?_, b1⟩
  cases v <;> exact a1
end ZC
/-! words of a call -/
def zGw (M' : zM) (na : Nat) : Prop := Cond.code M'.1 M'.2.1 M'.2.2.1 M'.2.2.2 ∈ zWA ∧ Cond.initialized M'.1.cls ∈ zWA ∧ (M'.1.cls ≠ "java/lang/invoke/MethodHandle" ∧ M'.1.cls ≠ "java/lang/invoke/VarHandle" ∧ (parseMethodDescriptor M'.1.desc).map (fun d => d.parameters.length) = some na) ∧ M'.2.2.1 ≤ 14
def zGv (own : String) (ix : Nat) (M' : zM) (na : Nat) : Prop := zGw M' na ∧ Cond.methodLink own ix M'.1 ∈ zWA ∧ Cond.instanceMethod M'.1 ∈ zWA ∧ Cond.selects M'.1.cls M'.1 M'.1 ∈ zWA
def zGs (own : String) (ix : Nat) (M' : zM) (na : Nat) : Prop := zGw M' na ∧ Cond.methodLink own ix M'.1 ∈ zWA ∧ Cond.static M'.1 ∈ zWA
def zGn (own : String) (ix : Nat) (M' : zM) (na : Nat) : Prop := zGw M' na ∧ (own, ix, M'.1) ∈ zNest ∧ Cond.static M'.1 ∈ zWA
def zGi (own : String) (ix : Nat) (M' : zM) (na : Nat) : Prop := zGw M' na ∧ Cond.methodLink own ix M'.1 ∈ zWA ∧ Cond.instanceMethod M'.1 ∈ zWA ∧ M'.1.name = "<init>" ∧ M'.2.2.2 = none
def zGin (own : String) (ix : Nat) (M' : zM) (na : Nat) : Prop := zGw M' na ∧ (own, ix, M'.1) ∈ zNest ∧ Cond.instanceMethod M'.1 ∈ zWA ∧ M'.1.name = "<init>" ∧ M'.2.2.2 = none
theorem zGood {L : List Cond} (h : ∀ w ∈ L, w ∈ zWA) : GoodIn zWA L := fun w hw => ⟨h w hw, good_of_word (zWA_good w (h w hw))⟩
theorem zGood' {M' : zM} (h : Cond.code M'.1 M'.2.1 M'.2.2.1 M'.2.2.2 ∈ zWA) : ∀ w ∈ zws M', w ∈ zWA := fun w hw => by
  rcases List.mem_cons.mp hw with rfl | hw
  · exact h
  · exact hw
theorem zst_sum {ad : Nat → Nat} {st : List Value} (h : (st.map fun v => v.category).sum ≤ 8) : ((st.map (zV ad)).map fun v => v.category).sum ≤ 8 := by
  have e : (st.map (zV ad)).map (fun v => v.category) = st.map fun v => v.category := by
    rw [List.map_map]
    exact List.map_congr_left fun v _ => zV_cat ad v
  rw [e]
  exact h
section ZQ
variable {X : zX} {R : Room} {M : zM} {Q : zQT} {fr : Bool} {k j : Nat} {h : zH} {n pc : Nat} {lv : List (Nat × Value)} {st stk : List Value}
variable {d' mc' ms' n' ix na : Nat} {M' : zM} {av : List Value} {h' : zH} {v : Option Value}
/-- the room of the caller is enough for the callee -/
def zRm (R : Room) (d' mc' ms' k j : Nat) : Prop := d' + 4 ≤ R.frames ∧ 33 * d' + 33 ≤ R.locals ∧ k + mc' ≤ R.cells ∧ j + ms' ≤ R.slots
theorem z_callS (hd : decode M.2.1 pc = .ok (.invokestatic ix, 3)) (g : zGs M.1.cls ix M' na) (hC : zC X d' M' mc' ms' fr av h n v h' n') (hstk : av.reverse ++ st = stk) (hR : zRm R d' mc' ms' k j) (hna : av.length = na) (hsum : (st.map fun v => v.category).sum ≤ 8) (hn : fr = true → X.2.2.2.1 n' = X.2.2.2.1 n + mc')
    (kk : zJ X R M Q fr (k + mc') (j + ms') h' n' (pc + 3) lv (v.toList ++ st)) : zJ X R M Q fr k j h n pc lv stk := by
  intro p e s m args below meth c A H locs ls hB hDD hL
  subst hstk
  obtain ⟨⟨g1, g2, g3, g4⟩, g5, g6⟩ := g
  obtain ⟨r1, r2, r3, r4⟩ := hR
  refine zW_sz fun hsz => zc_go hB hDD hL (va_runS (As := av.map (zV X.2.2.2.1)) (rest := st.map (zV X.2.2.2.1)) (n := na) ⟨hB.1, hB.2.1, hB.2.2.1, hB.own, hB.words⟩ (hC H.size)
    (va_cwS na hB.words (zGood (fun w hw => ?_)) rfl rfl rfl g3 ⟨?_, ?_⟩) (zc_pre hDD hB hsz av) rfl (by simpa using hna) hL.1 (by simp) (lv_room (zst_sum hsum)) hd ⟨r3, r4⟩) hn kk
  · unfold va_wsS at hw
    simp only [List.cons_append, List.nil_append, List.mem_cons] at hw
    rcases hw with rfl | rfl | rfl | hw
    · exact g5
    · exact g6
    · exact g2
    · exact zGood' g1 w hw
  · show d' + 3 + 1 ≤ R.frames
    omega
  · show 8 + (M'.2.2.1 + 11) + 33 * d' ≤ R.locals
    omega
theorem z_callN (hd : decode M.2.1 pc = .ok (.invokestatic ix, 3)) (g : zGn M.1.cls ix M' na) (hC : zC X d' M' mc' ms' fr av h n v h' n') (hstk : av.reverse ++ st = stk) (hR : zRm R d' mc' ms' k j) (hna : av.length = na) (hsum : (st.map fun v => v.category).sum ≤ 8) (hn : fr = true → X.2.2.2.1 n' = X.2.2.2.1 n + mc')
    (kk : zJ X R M Q fr (k + mc') (j + ms') h' n' (pc + 3) lv (v.toList ++ st)) : zJ X R M Q fr k j h n pc lv stk := by
  intro p e s m args below meth c A H locs ls hB hDD hL
  subst hstk
  obtain ⟨⟨g1, g2, g3, g4⟩, g5, g6⟩ := g
  obtain ⟨r1, r2, r3, r4⟩ := hR
  refine zW_sz fun hsz => zc_go hB hDD hL (va_runSN (As := av.map (zV X.2.2.2.1)) (rest := st.map (zV X.2.2.2.1)) (n := na) ⟨hB.1, hB.2.1, hB.2.2.1, hB.own, hB.words⟩ (hC H.size)
    ⟨va_cnB na hB.words (zGood (zGood' g1)) rfl rfl rfl (hB.stat.1 _ g5) (hB.word g2) g3 ⟨?_, ?_⟩, hB.word g6, trivial⟩ (zc_pre hDD hB hsz av) rfl (by simpa using hna) hL.1 (by simp) (lv_room (zst_sum hsum)) hd ⟨r3, r4⟩) hn kk
  · show d' + 3 + 1 ≤ R.frames
    omega
  · show 8 + (M'.2.2.1 + 11) + 33 * d' ≤ R.locals
    omega
theorem z_callV {b ci : Nat} {fs : List Value} {T : u_T} {N : Nat} (hd : decode M.2.1 pc = .ok (.invokevirtual ix, 3)) (g : zGv M.1.cls ix M' na) (hC : zC X d' M' mc' ms' fr (.ref b :: av) h n v h' n') (hb : b < n) (hc : h b = .inr (ci, fs)) (hci : zCl[ci]? = some (M'.1.cls, T, N)) (hstk : av.reverse ++ .ref b :: st = stk) (hR : zRm R d' mc' ms' k j) (hna : av.length = na) (hsum : (st.map fun v => v.category).sum ≤ 8) (hn : fr = true → X.2.2.2.1 n' = X.2.2.2.1 n + mc')
    (kk : zJ X R M Q fr (k + mc') (j + ms') h' n' (pc + 3) lv (v.toList ++ st)) : zJ X R M Q fr k j h n pc lv stk := by
  intro p e s m args below meth c A H locs ls hB hDD hL
  subst hstk
  obtain ⟨⟨g1, g2, g3, g4⟩, g5, g6, g7⟩ := g
  obtain ⟨r1, r2, r3, r4⟩ := hR
  refine zW_sz fun hsz => ?_
  have hpr := zc_pre hDD hB hsz (.ref b :: av)
  refine zc_go hB hDD hL (va_runV (C := M'.1.cls) (b := X.2.2.2.1 b) (As := av.map (zV X.2.2.2.1)) (rest := st.map (zV X.2.2.2.1)) (n := na) ⟨hB.1, hB.2.1, hB.2.2.1, hB.own, hB.words⟩ (hC H.size)
    (cwV na hB.words (zGood (fun w hw => ?_)) rfl rfl rfl ⟨rfl, g3⟩ ⟨?_, ?_⟩) ⟨hpr.1, va_recv hB.kinds hDD.1 hci (q0 := b) (fs := fs.map (zV X.2.2.2.1)) (by rw [zW_get hb, hc]; rfl), hpr.2⟩ rfl (by simpa using hna) hL.1 (by simp [zV]) (lv_room (zst_sum hsum)) hd ⟨r3, r4⟩) hn kk
  · unfold wsV at hw
    simp only [List.cons_append, List.nil_append, List.mem_cons] at hw
    rcases hw with rfl | rfl | rfl | rfl | hw
    · exact g5
    · exact g6
    · exact g7
    · exact g2
    · exact zGood' g1 w hw
  · show d' + 3 + 1 ≤ R.frames
    omega
  · show 8 + (M'.2.2.1 + 11) + 33 * d' ≤ R.locals
    omega
end ZQ
section ZE
variable {X : zX} {R : Room} {M : zM} {mc ms : Nat} {fr : Bool} {hf : zH} {k j : Nat} {h : zH} {n pc : Nat} {lv : List (Nat × Value)}
theorem zF_of {A : Nat → Prop} {s t : State} {H : Heap} {locs : List Loc} (hDD : zD X A s fr k h n H locs) (ht : t.heap = H) : zF X A fr h n s t :=
  ⟨by rw [ht]; exact hDD.1, hDD.2.1, hDD.2.2.1.F ht, fun h9 => by rw [ht]; exact (hDD.2.2.2 h9).1⟩
theorem z_iret {x r : Int32} (hd : decode M.2.1 pc = .ok (.ireturn, 1)) (hr : M.2.2.2 = some .int) (hk : k ≤ mc) (hj : j ≤ ms) (hx : x = r) (hh : h = hf) : zJ X R M (zRet X mc ms fr (some (.int r)) hf n) fr k j h n pc lv [.int x] := by
  intro p e s m args below meth c A H locs ls hB hDD hL
  subst hx; subst hh
  exact W.widen hk hj (W.iret hB.1 hB.2.1 (hB.2.2.2.1.trans hr) (fun t ht hW => ⟨rfl, zF_of hDD ht⟩) hDD.2.2.1.2.2 hd hB.2.2.2.2.1)
theorem z_zret {x r : Int32} (hd : decode M.2.1 pc = .ok (.ireturn, 1)) (hr : M.2.2.2 = some .boolean) (hk : k ≤ mc) (hj : j ≤ ms) (hn : narrow .boolean (.int x) = .int x) (hx : x = r) (hh : h = hf) : zJ X R M (zRet X mc ms fr (some (.int r)) hf n) fr k j h n pc lv [.int x] := by
  intro p e s m args below meth c A H locs ls hB hDD hL
  subst hx; subst hh
  exact W.widen hk hj (W.zret hB.1 hB.2.1 (hB.2.2.2.1.trans hr) hn (fun t ht hW => ⟨rfl, zF_of hDD ht⟩) hDD.2.2.1.2.2 hd hB.2.2.2.2.1)
theorem z_lret {x r : Int64} (hd : decode M.2.1 pc = .ok (.lreturn, 1)) (hr : M.2.2.2 = some .long) (hk : k ≤ mc) (hj : j ≤ ms) (hx : x = r) (hh : h = hf) : zJ X R M (zRet X mc ms fr (some (.long r)) hf n) fr k j h n pc lv [.long x] := by
  intro p e s m args below meth c A H locs ls hB hDD hL
  subst hx; subst hh
  exact W.widen hk hj (W.lret hB.1 hB.2.1 (hB.2.2.2.1.trans hr) (fun t ht hW => ⟨rfl, zF_of hDD ht⟩) hDD.2.2.1.2.2 hd hB.2.2.2.2.1)
theorem z_vret (hd : decode M.2.1 pc = .ok (.return_, 1)) (hr : M.2.2.2 = none) (hk : k ≤ mc) (hj : j ≤ ms) (hh : h = hf) : zJ X R M (zRet X mc ms fr none hf n) fr k j h n pc lv [] := by
  intro p e s m args below meth c A H locs ls hB hDD hL
  subst hh
  exact W.widen hk hj (W.vret hB.1 hB.2.1 (hB.2.2.2.1.trans hr) (fun t ht hW => ⟨rfl, zF_of hDD ht⟩) hDD.2.2.1.2.2 hd hB.2.2.2.2.1)
/-- fewer of the locals are told -/
theorem z_loc {Q : zQT} {lv lv' : List (Nat × Value)} {st : List Value} (h1 : ∀ q ∈ lv', q ∈ lv) (kk : zJ X R M Q fr k j h n pc lv' st) : zJ X R M Q fr k j h n pc lv st := by
  intro p e s m args below meth c A H locs ls hB hDD hL
  refine kk p e s m args below meth c A H locs ls hB hDD ⟨hL.1, hL.2.1, fun q hq => hL.2.2 q ?_⟩
  obtain ⟨q0, hq0, rfl⟩ := List.mem_map.mp hq
  exact List.mem_map.mpr ⟨q0, h1 q0 hq0, rfl⟩
/-- the table of the operands' kinds -/
theorem z_kinds {Q : zQT} {t : Nat} {i : Int32} {st : List Value} (hd : decode M.2.1 pc = .ok (.iaload, 1)) (hi : zin i t 66) (kk : zJ X R M Q fr k j h n (pc + 1) lv (.int (zKinds.getD t 0) :: st)) : zJ X R M Q fr k j h n pc lv (.int i :: .ref 900 :: st) := by
  intro p e s m args below meth c A H locs ls hB hDD hL
  have h9 := kk p e s m args below meth c A H locs ls hB hDD hL
  rw [← hi.cl] at h9
  exact va_ti hB.1 hB.2.1 hB.stat.2.2.1 hDD.2.2.1 hi.vp rfl hd h9
theorem z_getKinds {Q : zQT} {ix : Nat} {st : List Value} (hd : decode M.2.1 pc = .ok (.getstatic ix, 3)) (hw : Cond.fieldLink M.1.cls ix "TableMachine$Op" "KINDS" "[I" ∈ zWA) (kk : zJ X R M Q fr k j h n (pc + 3) lv (.ref 900 :: st)) : zJ X R M Q fr k j h n pc lv st := by
  intro p e s m args below meth c A H locs ls hB hDD hL
  exact va_gets hB.1 hB.2.1 hB.stat.2.1 hDD.2.2.1 hB.own (hB.word hw) (fun _ h9 => h9) hd (kk p e s m args below meth c A H locs ls hB hDD hL)
end ZE
end
section
/-! The heap once all is made: 60 cells. J a i: the i-th int (or boolean) field or element of cell a; G a i: the i-th long of it. -/
abbrev zJT : Type := Nat → Nat → Int32
abbrev zGT : Type := Nat → Nat → Int64
def zAi (n : Nat) (f : Nat → Int32) : va_E := .inl (0, n, .inl f)
def zAz (n : Nat) (f : Nat → Int32) : va_E := .inl (2, n, .inl f)
def zAl (n : Nat) (g : Nat → Int64) : va_E := .inl (1, n, .inr (.inl g))
def zAr (t n : Nat) (g : Nat → Option Nat) : va_E := .inl (t, n, .inr (.inr (.inr (.inr g))))
def zsh (i : Nat) (f : Nat → Int32) (g : Nat → Int64) : va_E := match i with
  | 0 => .inr (0, [.ref 1, .ref 2, .ref 15, .ref 17, .ref 29, .ref 32])
  | 1 => .inr (1, [.ref 2, .ref 15, .ref 17, .ref 22, .ref 25, .int (f 5)])
  | 2 => .inr (2, [.ref 3, .int (f 1), .ref 4, .ref 7, .ref 8, .int (f 5)])
  | 3 => zAr 3 3 (fun t => if t = 0 then some 9 else if t = 1 then some 11 else if t = 2 then some 13 else none)
  | 4 => .inr (4, [.ref 5, .ref 6])
  | 5 => zAl 360 g
  | 6 => zAz 360 f
  | 7 => zAl 90 g
  | 8 => zAi 90 f
  | 9 => .inr (3, [.int (f 0), .int (f 1), .ref 10])
  | 10 => zAi 90 f
  | 11 => .inr (3, [.int (f 0), .int (f 1), .ref 12])
  | 12 => zAi 90 f
  | 13 => .inr (3, [.int (f 0), .int (f 1), .ref 14])
  | 14 => zAi 90 f
  | 15 => .inr (6, [.int (f 0), .ref 16])
  | 16 => zAi 240 f
  | 17 => .inr (7, [.int (f 0), .ref 18, .ref 19])
  | 18 => zAi 64 f
  | 19 => .inr (4, [.ref 20, .ref 21])
  | 20 => zAl 256 g
  | 21 => zAz 256 f
  | 22 => .inr (4, [.ref 23, .ref 24])
  | 23 => zAl 16 g
  | 24 => zAz 16 f
  | 25 => zAr 4 3 (fun t => if t = 0 then some 26 else if t = 1 then some 27 else if t = 2 then some 28 else none)
  | 26 => .inr (5, [.int (f 0), .int (f 1), .long (g 2)])
  | 27 => .inr (5, [.int (f 0), .int (f 1), .long (g 2)])
  | 28 => .inr (5, [.int (f 0), .int (f 1), .long (g 2)])
  | 29 => .inr (4, [.ref 30, .ref 31])
  | 30 => zAl 4 g
  | 31 => zAz 4 f
  | 32 => .inr (8, [.ref 33, .int (f 1), .int (f 2), .int (f 3), .ref 34, .ref 35, .ref 36, .ref 37, .ref 38, .ref 39, .int (f 10), .int (f 11), .int (f 12)])
  | 33 => zAi 2 f
  | 34 => zAi 4 f
  | 35 => zAi 4 f
  | 36 => zAi 4 f
  | 37 => zAi 4 f
  | 38 => zAi 4 f
  | 39 => zAi 4 f
  | 40 => .inr (9, [.int (f 0), .int (f 1), .ref 41, .int (f 3), .ref 42, .ref 43, .ref 44, .ref 45, .ref 46, .ref 47, .int (f 10), .ref 48, .ref 49, .ref 50, .ref 51, .ref 52, .ref 53, .int (f 17), .int (f 18), .int (f 19), .ref 54, .ref 55, .ref 56, .int (f 23), .int (f 24), .int (f 25), .ref 57, .int (f 27), .ref 58, .int (f 29), .int (f 30), .int (f 31)])
  | 41 => zAi 3 f
  | 42 => zAi 90 f
  | 43 => zAl 90 g
  | 44 => zAl 360 g
  | 45 => zAz 360 f
  | 46 => zAl 4 g
  | 47 => zAz 4 f
  | 48 => zAi 240 f
  | 49 => zAl 16 g
  | 50 => zAz 16 f
  | 51 => zAi 3 f
  | 52 => zAz 3 f
  | 53 => zAl 3 g
  | 54 => zAi 64 f
  | 55 => zAl 256 g
  | 56 => zAz 256 f
  | 57 => zAi 8 f
  | 58 => zAi 16 f
  | 59 => zAl 1 g
  | _ => .inr (0, [])
def hp (J : zJT) (G : zGT) : zH := fun i => zsh i (J i) (G i)
theorem hp_J {J : zJT} {G : zGT} {a : Nat} {f : Nat → Int32} {e : va_E} (h : e = zsh a f (G a)) : va_up (hp J G) a e = hp (va_up J a f) G := by
  funext i
  by_cases hi : i = a
  · subst hi; subst h; simp [va_up, hp]
  · simp [va_up, hp, hi]
theorem hp_G {J : zJT} {G : zGT} {a : Nat} {g : Nat → Int64} {e : va_E} (h : e = zsh a (J a) g) : va_up (hp J G) a e = hp J (va_up G a g) := by
  funext i
  by_cases hi : i = a
  · subst hi; subst h; simp [va_up, hp]
  · simp [va_up, hp, hi]
/-- a contract over the whole heap, of a method that makes nothing -/
abbrev zK (X : zX) (d : Nat) (M : zM) (av : List Value) (J : zJT) (G : zGT) (v : Option Value) (J' : zJT) (G' : zGT) : Prop := zC X d M 0 0 false av (hp J G) 60 v (hp J' G') 60
/-- a truth value as Java's -/
def zb (b : Bool) : Int32 := if b then 1 else 0
theorem zb_n (b : Bool) : narrow .boolean (.int (zb b)) = .int (zb b) := by cases b <;> decide
theorem zb_v (b : Bool) : vp_nar .boolean (zb b) = zb b := by cases b <;> decide
/-! writes, as the walk makes them -/
theorem hp_pi {J : zJT} {G : zGT} {a : Nat} (k : Nat) {v : Int32} {e : va_E} (h : e = zsh a (va_up (J a) k v) (G a)) : va_up (hp J G) a e = hp (va_up J a (va_up (J a) k v)) G := hp_J h
theorem hp_pl {J : zJT} {G : zGT} {a : Nat} (k : Nat) {v : Int64} {e : va_E} (h : e = zsh a (J a) (va_up (G a) k v)) : va_up (hp J G) a e = hp J (va_up G a (va_up (G a) k v)) := hp_G h
theorem hp_ai {J : zJT} {G : zGT} {a t : Nat} {x : Int32} {e : va_E} (h : e = zsh a (upd (J a) t x) (G a)) : va_up (hp J G) a e = hp (va_up J a (upd (J a) t x)) G := hp_J h
theorem hp_al {J : zJT} {G : zGT} {a t : Nat} {x : Int64} {e : va_E} (h : e = zsh a (J a) (vp_updL (G a) t x)) : va_up (hp J G) a e = hp J (va_up G a (vp_updL (G a) t x)) := hp_G h
section ZV
variable {X : zX} {R : Room} {M : zM} {Q : zQT} {fr : Bool} {k j : Nat} {h : zH} {n pc : Nat} {lv : List (Nat × Value)} {st stk : List Value}
variable {d' mc' ms' n' ix na : Nat} {M' : zM} {av : List Value} {h' : zH} {v : Value}
theorem z_callS1 (hd : decode M.2.1 pc = .ok (.invokestatic ix, 3)) (g : zGs M.1.cls ix M' na) (hC : zC X d' M' mc' ms' false av h n (some v) h' n') (hstk : av.reverse ++ st = stk) (hR : zRm R d' mc' ms' k j) (hna : av.length = na) (hsum : (st.map fun v => v.category).sum ≤ 8)
    (kk : zJ X R M Q false (k + mc') (j + ms') h' n' (pc + 3) lv (v :: st)) : zJ X R M Q false k j h n pc lv stk := z_callS hd g hC hstk hR hna hsum (fun h9 => nomatch h9) kk
theorem z_callN1 (hd : decode M.2.1 pc = .ok (.invokestatic ix, 3)) (g : zGn M.1.cls ix M' na) (hC : zC X d' M' mc' ms' false av h n (some v) h' n') (hstk : av.reverse ++ st = stk) (hR : zRm R d' mc' ms' k j) (hna : av.length = na) (hsum : (st.map fun v => v.category).sum ≤ 8)
    (kk : zJ X R M Q false (k + mc') (j + ms') h' n' (pc + 3) lv (v :: st)) : zJ X R M Q false k j h n pc lv stk := z_callN hd g hC hstk hR hna hsum (fun h9 => nomatch h9) kk
theorem z_callV1 {b ci : Nat} {fs : List Value} {T : u_T} {N : Nat} (hd : decode M.2.1 pc = .ok (.invokevirtual ix, 3)) (g : zGv M.1.cls ix M' na) (hC : zC X d' M' mc' ms' false (.ref b :: av) h n (some v) h' n') (hb : b < n) (hc : h b = .inr (ci, fs)) (hci : zCl[ci]? = some (M'.1.cls, T, N)) (hstk : av.reverse ++ .ref b :: st = stk) (hR : zRm R d' mc' ms' k j) (hna : av.length = na) (hsum : (st.map fun v => v.category).sum ≤ 8)
    (kk : zJ X R M Q false (k + mc') (j + ms') h' n' (pc + 3) lv (v :: st)) : zJ X R M Q false k j h n pc lv stk := z_callV hd g hC hb hc hci hstk hR hna hsum (fun h9 => nomatch h9) kk
theorem z_callV0 {b ci : Nat} {fs : List Value} {T : u_T} {N : Nat} (hd : decode M.2.1 pc = .ok (.invokevirtual ix, 3)) (g : zGv M.1.cls ix M' na) (hC : zC X d' M' mc' ms' false (.ref b :: av) h n none h' n') (hb : b < n) (hc : h b = .inr (ci, fs)) (hci : zCl[ci]? = some (M'.1.cls, T, N)) (hstk : av.reverse ++ .ref b :: st = stk) (hR : zRm R d' mc' ms' k j) (hna : av.length = na) (hsum : (st.map fun v => v.category).sum ≤ 8)
    (kk : zJ X R M Q false (k + mc') (j + ms') h' n' (pc + 3) lv st) : zJ X R M Q false k j h n pc lv stk := z_callV hd g hC hb hc hci hstk hR hna hsum (fun h9 => nomatch h9) kk
end ZV
theorem zb_f (b : Bool) : fits .boolean (.int (zb b)) = true := by cases b <;> decide
end
section
/-! methods, by program: records; the words on fields -/
theorem zu0 : ∀ w ∈ u_ws zr0 zf0 6, w ∈ zWA := List.forall_mem_cons.mpr ⟨zWA_of (i := 240) (by decide +kernel) (by decide +kernel), List.forall_mem_cons.mpr ⟨zWA_of (i := 242) (by decide +kernel) (by decide +kernel), List.forall_mem_cons.mpr ⟨zWA_of (i := 244) (by decide +kernel) (by decide +kernel), List.forall_mem_cons.mpr ⟨zWA_of (i := 246) (by decide +kernel) (by decide +kernel), List.forall_mem_cons.mpr ⟨zWA_of (i := 248) (by decide +kernel) (by decide +kernel), List.forall_mem_cons.mpr ⟨zWA_of (i := 250) (by decide +kernel) (by decide +kernel), fun _ h => nomatch h⟩⟩⟩⟩⟩⟩
theorem zu1 : ∀ w ∈ u_ws zr1 zf1 6, w ∈ zWA := List.forall_mem_cons.mpr ⟨zWA_of (i := 170) (by decide +kernel) (by decide +kernel), List.forall_mem_cons.mpr ⟨zWA_of (i := 172) (by decide +kernel) (by decide +kernel), List.forall_mem_cons.mpr ⟨zWA_of (i := 174) (by decide +kernel) (by decide +kernel), List.forall_mem_cons.mpr ⟨zWA_of (i := 176) (by decide +kernel) (by decide +kernel), List.forall_mem_cons.mpr ⟨zWA_of (i := 178) (by decide +kernel) (by decide +kernel), List.forall_mem_cons.mpr ⟨zWA_of (i := 180) (by decide +kernel) (by decide +kernel), fun _ h => nomatch h⟩⟩⟩⟩⟩⟩
theorem zu2 : ∀ w ∈ u_ws zr2 zf2 6, w ∈ zWA := List.forall_mem_cons.mpr ⟨zWA_of (i := 88) (by decide +kernel) (by decide +kernel), List.forall_mem_cons.mpr ⟨zWA_of (i := 90) (by decide +kernel) (by decide +kernel), List.forall_mem_cons.mpr ⟨zWA_of (i := 92) (by decide +kernel) (by decide +kernel), List.forall_mem_cons.mpr ⟨zWA_of (i := 94) (by decide +kernel) (by decide +kernel), List.forall_mem_cons.mpr ⟨zWA_of (i := 96) (by decide +kernel) (by decide +kernel), List.forall_mem_cons.mpr ⟨zWA_of (i := 98) (by decide +kernel) (by decide +kernel), fun _ h => nomatch h⟩⟩⟩⟩⟩⟩
theorem zu3 : ∀ w ∈ u_ws zr3 zf3 3, w ∈ zWA := List.forall_mem_cons.mpr ⟨zWA_of (i := 70) (by decide +kernel) (by decide +kernel), List.forall_mem_cons.mpr ⟨zWA_of (i := 72) (by decide +kernel) (by decide +kernel), List.forall_mem_cons.mpr ⟨zWA_of (i := 74) (by decide +kernel) (by decide +kernel), fun _ h => nomatch h⟩⟩⟩
theorem zu4 : ∀ w ∈ u_ws zr4 zf4 2, w ∈ zWA := List.forall_mem_cons.mpr ⟨zWA_of (i := 51) (by decide +kernel) (by decide +kernel), List.forall_mem_cons.mpr ⟨zWA_of (i := 53) (by decide +kernel) (by decide +kernel), fun _ h => nomatch h⟩⟩
theorem zu5 : ∀ w ∈ u_ws zr5 zf5 3, w ∈ zWA := List.forall_mem_cons.mpr ⟨zWA_of (i := 154) (by decide +kernel) (by decide +kernel), List.forall_mem_cons.mpr ⟨zWA_of (i := 156) (by decide +kernel) (by decide +kernel), List.forall_mem_cons.mpr ⟨zWA_of (i := 158) (by decide +kernel) (by decide +kernel), fun _ h => nomatch h⟩⟩⟩
theorem zu6 : ∀ w ∈ u_ws zr6 zf6 2, w ∈ zWA := List.forall_mem_cons.mpr ⟨zWA_of (i := 112) (by decide +kernel) (by decide +kernel), List.forall_mem_cons.mpr ⟨zWA_of (i := 114) (by decide +kernel) (by decide +kernel), fun _ h => nomatch h⟩⟩
theorem zu7 : ∀ w ∈ u_ws zr7 zf7 3, w ∈ zWA := List.forall_mem_cons.mpr ⟨zWA_of (i := 132) (by decide +kernel) (by decide +kernel), List.forall_mem_cons.mpr ⟨zWA_of (i := 134) (by decide +kernel) (by decide +kernel), List.forall_mem_cons.mpr ⟨zWA_of (i := 136) (by decide +kernel) (by decide +kernel), fun _ h => nomatch h⟩⟩⟩
theorem zu8 : ∀ w ∈ u_ws zr8 zf8 13, w ∈ zWA := List.forall_mem_cons.mpr ⟨zWA_of (i := 207) (by decide +kernel) (by decide +kernel), List.forall_mem_cons.mpr ⟨zWA_of (i := 209) (by decide +kernel) (by decide +kernel), List.forall_mem_cons.mpr ⟨zWA_of (i := 211) (by decide +kernel) (by decide +kernel), List.forall_mem_cons.mpr ⟨zWA_of (i := 213) (by decide +kernel) (by decide +kernel), List.forall_mem_cons.mpr ⟨zWA_of (i := 215) (by decide +kernel) (by decide +kernel), List.forall_mem_cons.mpr ⟨zWA_of (i := 217) (by decide +kernel) (by decide +kernel), List.forall_mem_cons.mpr ⟨zWA_of (i := 219) (by decide +kernel) (by decide +kernel), List.forall_mem_cons.mpr ⟨zWA_of (i := 221) (by decide +kernel) (by decide +kernel), List.forall_mem_cons.mpr ⟨zWA_of (i := 223) (by decide +kernel) (by decide +kernel), List.forall_mem_cons.mpr ⟨zWA_of (i := 225) (by decide +kernel) (by decide +kernel), List.forall_mem_cons.mpr ⟨zWA_of (i := 227) (by decide +kernel) (by decide +kernel), List.forall_mem_cons.mpr ⟨zWA_of (i := 229) (by decide +kernel) (by decide +kernel), List.forall_mem_cons.mpr ⟨zWA_of (i := 231) (by decide +kernel) (by decide +kernel), fun _ h => nomatch h⟩⟩⟩⟩⟩⟩⟩⟩⟩⟩⟩⟩⟩
theorem zu9 : ∀ w ∈ u_ws zr9 zf9 32, w ∈ zWA := List.forall_mem_cons.mpr ⟨zWA_of (i := 831) (by decide +kernel) (by decide +kernel), List.forall_mem_cons.mpr ⟨zWA_of (i := 833) (by decide +kernel) (by decide +kernel), List.forall_mem_cons.mpr ⟨zWA_of (i := 835) (by decide +kernel) (by decide +kernel), List.forall_mem_cons.mpr ⟨zWA_of (i := 837) (by decide +kernel) (by decide +kernel), List.forall_mem_cons.mpr ⟨zWA_of (i := 839) (by decide +kernel) (by decide +kernel), List.forall_mem_cons.mpr ⟨zWA_of (i := 841) (by decide +kernel) (by decide +kernel), List.forall_mem_cons.mpr ⟨zWA_of (i := 843) (by decide +kernel) (by decide +kernel), List.forall_mem_cons.mpr ⟨zWA_of (i := 845) (by decide +kernel) (by decide +kernel), List.forall_mem_cons.mpr ⟨zWA_of (i := 847) (by decide +kernel) (by decide +kernel), List.forall_mem_cons.mpr ⟨zWA_of (i := 849) (by decide +kernel) (by decide +kernel), List.forall_mem_cons.mpr ⟨zWA_of (i := 851) (by decide +kernel) (by decide +kernel), List.forall_mem_cons.mpr ⟨zWA_of (i := 853) (by decide +kernel) (by decide +kernel), List.forall_mem_cons.mpr ⟨zWA_of (i := 855) (by decide +kernel) (by decide +kernel), List.forall_mem_cons.mpr ⟨zWA_of (i := 857) (by decide +kernel) (by decide +kernel), List.forall_mem_cons.mpr ⟨zWA_of (i := 859) (by decide +kernel) (by decide +kernel), List.forall_mem_cons.mpr ⟨zWA_of (i := 861) (by decide +kernel) (by decide +kernel), List.forall_mem_cons.mpr ⟨zWA_of (i := 863) (by decide +kernel) (by decide +kernel), List.forall_mem_cons.mpr ⟨zWA_of (i := 865) (by decide +kernel) (by decide +kernel), List.forall_mem_cons.mpr ⟨zWA_of (i := 867) (by decide +kernel) (by decide +kernel), List.forall_mem_cons.mpr ⟨zWA_of (i := 869) (by decide +kernel) (by decide +kernel), List.forall_mem_cons.mpr ⟨zWA_of (i := 871) (by decide +kernel) (by decide +kernel), List.forall_mem_cons.mpr ⟨zWA_of (i := 873) (by decide +kernel) (by decide +kernel), List.forall_mem_cons.mpr ⟨zWA_of (i := 875) (by decide +kernel) (by decide +kernel), List.forall_mem_cons.mpr ⟨zWA_of (i := 877) (by decide +kernel) (by decide +kernel), List.forall_mem_cons.mpr ⟨zWA_of (i := 879) (by decide +kernel) (by decide +kernel), List.forall_mem_cons.mpr ⟨zWA_of (i := 881) (by decide +kernel) (by decide +kernel), List.forall_mem_cons.mpr ⟨zWA_of (i := 883) (by decide +kernel) (by decide +kernel), List.forall_mem_cons.mpr ⟨zWA_of (i := 885) (by decide +kernel) (by decide +kernel), List.forall_mem_cons.mpr ⟨zWA_of (i := 887) (by decide +kernel) (by decide +kernel), List.forall_mem_cons.mpr ⟨zWA_of (i := 889) (by decide +kernel) (by decide +kernel), List.forall_mem_cons.mpr ⟨zWA_of (i := 891) (by decide +kernel) (by decide +kernel), List.forall_mem_cons.mpr ⟨zWA_of (i := 893) (by decide +kernel) (by decide +kernel), fun _ h => nomatch h⟩⟩⟩⟩⟩⟩⟩⟩⟩⟩⟩⟩⟩⟩⟩⟩⟩⟩⟩⟩⟩⟩⟩⟩⟩⟩⟩⟩⟩⟩⟩⟩
abbrev m_TM_init : zM := (⟨"TableMachine", "<init>", "()V"⟩, prog_1_method_1_code, 1, none)
abbrev m_Mac_init : zM := (⟨"TableMachine$Machine", "<init>", "()V"⟩, prog_4_method_1_code, 2, none)
abbrev m_Sto_init : zM := (⟨"TableMachine$Store", "<init>", "()V"⟩, prog_9_method_1_code, 2, none)
abbrev m_Val_init : zM := (⟨"TableMachine$Values", "<init>", "(I)V"⟩, prog_11_method_1_code, 2, none)
abbrev m_Tab_init : zM := (⟨"TableMachine$Table", "<init>", "()V"⟩, prog_10_method_1_code, 1, none)
abbrev m_Pro_init : zM := (⟨"TableMachine$Program", "<init>", "()V"⟩, prog_6_method_1_code, 1, none)
abbrev m_Res_init : zM := (⟨"TableMachine$Results", "<init>", "()V"⟩, prog_8_method_1_code, 1, none)
abbrev m_Cur_init : zM := (⟨"TableMachine$Cursor", "<init>", "()V"⟩, prog_2_method_1_code, 1, none)
abbrev m_Que_init : zM := (⟨"TableMachine$Question", "<init>", "()V"⟩, prog_7_method_1_code, 1, none)
abbrev m_TM_set : zM := (⟨"TableMachine", "set", "(IZJ)Z"⟩, prog_1_method_3_code, 5, some .boolean)
abbrev m_TM_isIndex : zM := (⟨"TableMachine", "isIndex", "(II)Z"⟩, prog_1_method_21_code, 2, some .boolean)
abbrev m_Val_put : zM := (⟨"TableMachine$Values", "put", "(IJ)V"⟩, prog_11_method_4_code, 4, none)
abbrev m_Val_clear : zM := (⟨"TableMachine$Values", "clear", "(I)V"⟩, prog_11_method_5_code, 2, none)
abbrev m_TM_count : zM := (⟨"TableMachine", "count", "(I)I"⟩, prog_1_method_6_code, 2, some .int)
abbrev m_Sto_hasTable : zM := (⟨"TableMachine$Store", "hasTable", "(I)Z"⟩, prog_9_method_3_code, 2, some .boolean)
abbrev m_TM_wipe : zM := (⟨"TableMachine", "wipe", "()V"⟩, prog_1_method_11_code, 1, none)
abbrev m_TM_ask : zM := (⟨"TableMachine", "ask", "(II)Z"⟩, prog_1_method_16_code, 3, some .boolean)
abbrev m_Que_begin : zM := (⟨"TableMachine$Question", "begin", "(II)V"⟩, prog_7_method_2_code, 3, none)
abbrev m_TM_output : zM := (⟨"TableMachine", "output", "(II)Z"⟩, prog_1_method_17_code, 3, some .boolean)
abbrev m_TM_canAskFor : zM := (⟨"TableMachine", "canAskFor", "(II)Z"⟩, prog_1_method_25_code, 3, some .boolean)
abbrev m_Que_hasCursor : zM := (⟨"TableMachine$Question", "hasCursor", "(I)Z"⟩, prog_7_method_3_code, 2, some .boolean)
abbrev m_Sto_hasColumn : zM := (⟨"TableMachine$Store", "hasColumn", "(II)Z"⟩, prog_9_method_4_code, 3, some .boolean)
abbrev m_Que_bringOutput : zM := (⟨"TableMachine$Question", "bringOutput", "(II)V"⟩, prog_7_method_4_code, 3, none)
abbrev m_TM_condition : zM := (⟨"TableMachine", "condition", "(IIII)Z"⟩, prog_1_method_18_code, 5, some .boolean)
abbrev m_Que_bringCondition : zM := (⟨"TableMachine$Question", "bringCondition", "(IIII)V"⟩, prog_7_method_5_code, 5, none)
abbrev m_TM_join : zM := (⟨"TableMachine", "join", "(II)Z"⟩, prog_1_method_19_code, 3, some .boolean)
abbrev m_Que_bringJoin : zM := (⟨"TableMachine$Question", "bringJoin", "(II)V"⟩, prog_7_method_6_code, 3, none)
abbrev m_Law_table : zM := (⟨"TableMachineLaw", "table", "(LTableMachine;I[J)I"⟩, method_3_code, 4, some .int)
abbrev m_TM_table : zM := (⟨"TableMachine", "table", "(I)I"⟩, prog_1_method_2_code, 2, some .int)
abbrev m_Sto_begin : zM := (⟨"TableMachine$Store", "begin", "(I)I"⟩, prog_9_method_2_code, 3, some .int)
abbrev m_Law_insert : zM := (⟨"TableMachineLaw", "insert", "(LTableMachine;IJ[J)I"⟩, method_4_code, 6, some .int)
abbrev m_TM_insert : zM := (⟨"TableMachine", "insert", "(IJ)Z"⟩, prog_1_method_4_code, 4, some .boolean)
abbrev m_TM_requireTable : zM := (⟨"TableMachine", "requireTable", "(I)V"⟩, prog_1_method_22_code, 2, none)
abbrev m_Sto_isFull : zM := (⟨"TableMachine$Store", "isFull", "()Z"⟩, prog_9_method_5_code, 1, some .boolean)
abbrev m_Sto_bring : zM := (⟨"TableMachine$Store", "bring", "(IJLTableMachine$Values;I)Z"⟩, prog_9_method_10_code, 9, some .boolean)
abbrev m_Sto_rowsBelow : zM := (⟨"TableMachine$Store", "rowsBelow", "(IJZ)I"⟩, prog_9_method_8_code, 11, some .int)
abbrev m_Sto_isAt : zM := (⟨"TableMachine$Store", "isAt", "(IIJ)Z"⟩, prog_9_method_12_code, 6, some .boolean)
abbrev m_Val_copy : zM := (⟨"TableMachine$Values", "copy", "(ILTableMachine$Values;I)V"⟩, prog_11_method_7_code, 4, none)
abbrev m_Tab_open : zM := (⟨"TableMachine$Table", "open", "(II)V"⟩, prog_10_method_2_code, 4, none)
abbrev m_Law_delete : zM := (⟨"TableMachineLaw", "delete", "(LTableMachine;IJ[J)I"⟩, method_5_code, 6, some .int)
abbrev m_TM_delete : zM := (⟨"TableMachine", "delete", "(IJ)Z"⟩, prog_1_method_5_code, 4, some .boolean)
abbrev m_Sto_drop : zM := (⟨"TableMachine$Store", "drop", "(IJ)Z"⟩, prog_9_method_11_code, 5, some .boolean)
abbrev m_Tab_close : zM := (⟨"TableMachine$Table", "close", "(I)V"⟩, prog_10_method_3_code, 3, none)
abbrev m_Law_next : zM := (⟨"TableMachineLaw", "next", "(LTableMachine;IJZ[J)I"⟩, method_6_code, 7, some .int)
abbrev m_TM_next : zM := (⟨"TableMachine", "next", "(IJZ)J"⟩, prog_1_method_7_code, 6, some .long)
abbrev m_Sto_hasPlace : zM := (⟨"TableMachine$Store", "hasPlace", "(II)Z"⟩, prog_9_method_6_code, 3, some .boolean)
abbrev m_Sto_keyAt : zM := (⟨"TableMachine$Store", "keyAt", "(II)J"⟩, prog_9_method_7_code, 3, some .long)
abbrev m_Law_value : zM := (⟨"TableMachineLaw", "value", "(LTableMachine;IJI[J)I"⟩, method_7_code, 7, some .int)
abbrev m_TM_value : zM := (⟨"TableMachine", "value", "(IJI)J"⟩, prog_1_method_8_code, 5, some .long)
abbrev m_TM_requireCell : zM := (⟨"TableMachine", "requireCell", "(IJI)I"⟩, prog_1_method_23_code, 6, some .int)
abbrev m_Sto_slotOf : zM := (⟨"TableMachine$Store", "slotOf", "(IJ)I"⟩, prog_9_method_9_code, 5, some .int)
abbrev m_Val_number : zM := (⟨"TableMachine$Values", "number", "(I)J"⟩, prog_11_method_3_code, 2, some .long)
abbrev m_Law_isNull : zM := (⟨"TableMachineLaw", "isNull", "(LTableMachine;IJI[J)I"⟩, method_8_code, 7, some .int)
abbrev m_TM_isNull : zM := (⟨"TableMachine", "isNull", "(IJI)Z"⟩, prog_1_method_9_code, 5, some .boolean)
abbrev m_Val_has : zM := (⟨"TableMachine$Values", "has", "(I)Z"⟩, prog_11_method_2_code, 2, some .boolean)
abbrev m_Law_add : zM := (⟨"TableMachineLaw", "add", "(LTableMachine;IIII[J)I"⟩, method_9_code, 7, some .int)
abbrev m_TM_add : zM := (⟨"TableMachine", "add", "(IIII)I"⟩, prog_1_method_10_code, 5, some .int)
abbrev m_Op_accepts : zM := (⟨"TableMachine$Op", "accepts", "(IIII)Z"⟩, prog_5_method_3_code, 4, some .boolean)
abbrev m_Op_kind : zM := (⟨"TableMachine$Op", "kind", "(II)I"⟩, prog_5_method_2_code, 2, some .int)
abbrev m_Kin_takes : zM := (⟨"TableMachine$Kind", "takes", "(II)Z"⟩, prog_3_method_2_code, 2, some .boolean)
abbrev m_Op_kept : zM := (⟨"TableMachine$Op", "kept", "(III)I"⟩, prog_5_method_4_code, 3, some .int)
abbrev m_Pro_append : zM := (⟨"TableMachine$Program", "append", "(IIII)V"⟩, prog_6_method_3_code, 6, none)
abbrev m_Law_code : zM := (⟨"TableMachineLaw", "code", "(LTableMachine;II[J)I"⟩, method_10_code, 5, some .int)
abbrev m_TM_code : zM := (⟨"TableMachine", "code", "(II)I"⟩, prog_1_method_12_code, 3, some .int)
abbrev m_Pro_word : zM := (⟨"TableMachine$Program", "word", "(II)I"⟩, prog_6_method_2_code, 3, some .int)
abbrev m_Law_run : zM := (⟨"TableMachineLaw", "run", "(LTableMachine;I[J)I"⟩, method_11_code, 4, some .int)
abbrev m_TM_run : zM := (⟨"TableMachine", "run", "(I)I"⟩, prog_1_method_13_code, 2, some .int)
abbrev m_Pro_isSound : zM := (⟨"TableMachine$Program", "isSound", "(I)Z"⟩, prog_6_method_4_code, 5, some .boolean)
abbrev m_Mac_execute : zM := (⟨"TableMachine$Machine", "execute", "(I)I"⟩, prog_4_method_2_code, 5, some .int)
abbrev m_Mac_reset : zM := (⟨"TableMachine$Machine", "reset", "()V"⟩, prog_4_method_3_code, 2, none)
abbrev m_Val_clearAll : zM := (⟨"TableMachine$Values", "clearAll", "()V"⟩, prog_11_method_6_code, 2, none)
abbrev m_Cur_shut : zM := (⟨"TableMachine$Cursor", "shut", "()V"⟩, prog_2_method_3_code, 1, none)
abbrev m_Cur_open : zM := (⟨"TableMachine$Cursor", "open", "(I)V"⟩, prog_2_method_2_code, 2, none)
abbrev m_Op_needsOpenCursor : zM := (⟨"TableMachine$Op", "needsOpenCursor", "(I)Z"⟩, prog_5_method_5_code, 1, some .boolean)
abbrev m_Mac_useCursor : zM := (⟨"TableMachine$Machine", "useCursor", "(II)I"⟩, prog_4_method_5_code, 7, some .int)
abbrev m_Cur_isShut : zM := (⟨"TableMachine$Cursor", "isShut", "()Z"⟩, prog_2_method_4_code, 1, some .boolean)
abbrev m_Mac_end : zM := (⟨"TableMachine$Machine", "end", "(I)I"⟩, prog_4_method_4_code, 2, some .int)
abbrev m_Mac_moveTo : zM := (⟨"TableMachine$Machine", "moveTo", "(LTableMachine$Cursor;I)Z"⟩, prog_4_method_7_code, 3, some .boolean)
abbrev m_Mac_advance : zM := (⟨"TableMachine$Machine", "advance", "(LTableMachine$Cursor;)Z"⟩, prog_4_method_8_code, 3, some .boolean)
abbrev m_Mac_readColumn : zM := (⟨"TableMachine$Machine", "readColumn", "(LTableMachine$Cursor;II)V"⟩, prog_4_method_11_code, 5, none)
abbrev m_Mac_slotAt : zM := (⟨"TableMachine$Machine", "slotAt", "(LTableMachine$Cursor;)I"⟩, prog_4_method_10_code, 2, some .int)
abbrev m_Mac_readKey : zM := (⟨"TableMachine$Machine", "readKey", "(LTableMachine$Cursor;I)V"⟩, prog_4_method_12_code, 3, none)
abbrev m_Mac_seek : zM := (⟨"TableMachine$Machine", "seek", "(LTableMachine$Cursor;I)Z"⟩, prog_4_method_9_code, 3, some .boolean)
abbrev m_Mac_bringRow : zM := (⟨"TableMachine$Machine", "bringRow", "(LTableMachine$Cursor;I)Z"⟩, prog_4_method_13_code, 3, some .boolean)
abbrev m_Mac_dropRow : zM := (⟨"TableMachine$Machine", "dropRow", "(LTableMachine$Cursor;)V"⟩, prog_4_method_14_code, 2, none)
abbrev m_Mac_compute : zM := (⟨"TableMachine$Machine", "compute", "(II)I"⟩, prog_4_method_6_code, 7, some .int)
abbrev m_Mac_sum : zM := (⟨"TableMachine$Machine", "sum", "(III)V"⟩, prog_4_method_15_code, 4, none)
abbrev m_Res_take : zM := (⟨"TableMachine$Results", "take", "(LTableMachine$Values;II)Z"⟩, prog_8_method_3_code, 5, some .boolean)
abbrev m_Mac_holds : zM := (⟨"TableMachine$Machine", "holds", "(III)Z"⟩, prog_4_method_16_code, 5, some .boolean)
abbrev m_Law_result : zM := (⟨"TableMachineLaw", "result", "(LTableMachine;II[J)I"⟩, method_12_code, 5, some .int)
abbrev m_TM_result : zM := (⟨"TableMachine", "result", "(II)J"⟩, prog_1_method_14_code, 3, some .long)
abbrev m_Res_hasRow : zM := (⟨"TableMachine$Results", "hasRow", "(I)Z"⟩, prog_8_method_2_code, 2, some .boolean)
abbrev m_TM_requireResult : zM := (⟨"TableMachine", "requireResult", "(II)I"⟩, prog_1_method_24_code, 3, some .int)
abbrev m_Law_wasNull : zM := (⟨"TableMachineLaw", "wasNull", "(LTableMachine;II[J)I"⟩, method_13_code, 5, some .int)
abbrev m_TM_wasNull : zM := (⟨"TableMachine", "wasNull", "(II)Z"⟩, prog_1_method_15_code, 3, some .boolean)
abbrev m_Law_compile : zM := (⟨"TableMachineLaw", "compile", "(LTableMachine;[J)I"⟩, method_14_code, 3, some .int)
abbrev m_TM_compile : zM := (⟨"TableMachine", "compile", "()I"⟩, prog_1_method_20_code, 1, some .int)
abbrev m_Que_writeTo : zM := (⟨"TableMachine$Question", "writeTo", "(LTableMachine$Program;I)V"⟩, prog_7_method_7_code, 6, none)
abbrev m_Que_writeStart : zM := (⟨"TableMachine$Question", "writeStart", "(LTableMachine$Program;II)V"⟩, prog_7_method_9_code, 5, none)
abbrev m_Que_seekable : zM := (⟨"TableMachine$Question", "seekable", "(I)I"⟩, prog_7_method_10_code, 3, some .int)
abbrev m_Que_isFromBelow : zM := (⟨"TableMachine$Question", "isFromBelow", "(I)Z"⟩, prog_7_method_11_code, 1, some .boolean)
abbrev m_Que_writeConditions : zM := (⟨"TableMachine$Question", "writeConditions", "(LTableMachine$Program;II)V"⟩, prog_7_method_12_code, 5, none)
abbrev m_Que_writeCondition : zM := (⟨"TableMachine$Question", "writeCondition", "(LTableMachine$Program;II)V"⟩, prog_7_method_13_code, 5, none)
abbrev m_Que_writeColumn : zM := (⟨"TableMachine$Question", "writeColumn", "(LTableMachine$Program;III)V"⟩, prog_7_method_17_code, 5, none)
abbrev m_Que_writeTest : zM := (⟨"TableMachine$Question", "writeTest", "(LTableMachine$Program;III)V"⟩, prog_7_method_15_code, 5, none)
abbrev m_Que_writeInnerLoop : zM := (⟨"TableMachine$Question", "writeInnerLoop", "(LTableMachine$Program;I)V"⟩, prog_7_method_8_code, 5, none)
abbrev m_Que_writeJoin : zM := (⟨"TableMachine$Question", "writeJoin", "(LTableMachine$Program;I)V"⟩, prog_7_method_14_code, 3, none)
abbrev m_Que_writeOutputs : zM := (⟨"TableMachine$Question", "writeOutputs", "(LTableMachine$Program;)V"⟩, prog_7_method_16_code, 3, none)
abbrev m_Mod_init : zM := (⟨"TableMachineModel", "<init>", "()V"⟩, prog_13_method_1_code, 1, none)
abbrev m_Mod_thrown : zM := (⟨"TableMachineModel", "thrown", "()I"⟩, prog_13_method_2_code, 1, some .int)
abbrev m_Mod_table : zM := (⟨"TableMachineModel", "table", "(I)I"⟩, prog_13_method_4_code, 2, some .int)
abbrev m_Mod_set : zM := (⟨"TableMachineModel", "set", "(IZJ)Z"⟩, prog_13_method_5_code, 5, some .boolean)
abbrev m_Mod_insert : zM := (⟨"TableMachineModel", "insert", "(IJ)Z"⟩, prog_13_method_11_code, 5, some .boolean)
abbrev m_Mod_isTable : zM := (⟨"TableMachineModel", "isTable", "(I)Z"⟩, prog_13_method_3_code, 2, some .boolean)
abbrev m_Mod_rowOf : zM := (⟨"TableMachineModel", "rowOf", "(IJ)I"⟩, prog_13_method_6_code, 6, some .int)
abbrev m_Mod_lay : zM := (⟨"TableMachineModel", "lay", "(IJIZJ)V"⟩, prog_13_method_9_code, 8, none)
abbrev m_Mod_delete : zM := (⟨"TableMachineModel", "delete", "(IJ)Z"⟩, prog_13_method_12_code, 5, some .boolean)
abbrev m_Mod_take : zM := (⟨"TableMachineModel", "take", "(I)V"⟩, prog_13_method_10_code, 3, none)
abbrev m_Mod_count : zM := (⟨"TableMachineModel", "count", "(I)I"⟩, prog_13_method_13_code, 4, some .int)
abbrev m_Mod_next : zM := (⟨"TableMachineModel", "next", "(IJZ)J"⟩, prog_13_method_14_code, 6, some .long)
abbrev m_Mod_rowFrom : zM := (⟨"TableMachineModel", "rowFrom", "(IJZ)I"⟩, prog_13_method_7_code, 8, some .int)
abbrev m_Mod_value : zM := (⟨"TableMachineModel", "value", "(IJI)J"⟩, prog_13_method_16_code, 6, some .long)
abbrev m_Mod_asked : zM := (⟨"TableMachineModel", "asked", "(IJI)I"⟩, prog_13_method_15_code, 6, some .int)
abbrev m_Mod_isNull : zM := (⟨"TableMachineModel", "isNull", "(IJI)Z"⟩, prog_13_method_17_code, 6, some .boolean)
abbrev m_Mod_add : zM := (⟨"TableMachineModel", "add", "(IIII)I"⟩, prog_13_method_22_code, 5, some .int)
abbrev m_Mod_fits : zM := (⟨"TableMachineModel", "fits", "(IIII)Z"⟩, prog_13_method_19_code, 4, some .boolean)
abbrev m_Mod_in : zM := (⟨"TableMachineModel", "in", "(II)Z"⟩, prog_13_method_18_code, 2, some .boolean)
abbrev m_Mod_put : zM := (⟨"TableMachineModel", "put", "(IIII)V"⟩, prog_13_method_21_code, 6, none)
abbrev m_Mod_many : zM := (⟨"TableMachineModel", "many", "(I)I"⟩, prog_13_method_20_code, 1, some .int)
abbrev m_Mod_wipe : zM := (⟨"TableMachineModel", "wipe", "()V"⟩, prog_13_method_23_code, 1, none)
abbrev m_Mod_code : zM := (⟨"TableMachineModel", "code", "(II)I"⟩, prog_13_method_24_code, 3, some .int)
abbrev m_Mod_run : zM := (⟨"TableMachineModel", "run", "(I)I"⟩, prog_13_method_35_code, 4, some .int)
abbrev m_Mod_sound : zM := (⟨"TableMachineModel", "sound", "()Z"⟩, prog_13_method_26_code, 4, some .boolean)
abbrev m_Mod_goal : zM := (⟨"TableMachineModel", "goal", "(I)I"⟩, prog_13_method_25_code, 2, some .int)
abbrev m_Mod_keep : zM := (⟨"TableMachineModel", "keep", "(IZJ)V"⟩, prog_13_method_27_code, 5, none)
abbrev m_Mod_step : zM := (⟨"TableMachineModel", "step", "()Z"⟩, prog_13_method_34_code, 6, some .boolean)
abbrev m_Mod_needsOpen : zM := (⟨"TableMachineModel", "needsOpen", "(I)Z"⟩, prog_13_method_28_code, 1, some .boolean)
abbrev m_Mod_withCursor : zM := (⟨"TableMachineModel", "withCursor", "(IIII)Z"⟩, prog_13_method_32_code, 8, some .boolean)
abbrev m_Mod_firstRow : zM := (⟨"TableMachineModel", "firstRow", "(I)I"⟩, prog_13_method_8_code, 4, some .int)
abbrev m_Mod_point : zM := (⟨"TableMachineModel", "point", "(II)V"⟩, prog_13_method_29_code, 3, none)
abbrev m_Mod_rowAt : zM := (⟨"TableMachineModel", "rowAt", "(I)I"⟩, prog_13_method_30_code, 2, some .int)
abbrev m_Mod_without : zM := (⟨"TableMachineModel", "without", "(IIII)Z"⟩, prog_13_method_33_code, 6, some .boolean)
abbrev m_Mod_compares : zM := (⟨"TableMachineModel", "compares", "(IJJ)Z"⟩, prog_13_method_31_code, 7, some .boolean)
abbrev m_Mod_result : zM := (⟨"TableMachineModel", "result", "(II)J"⟩, prog_13_method_36_code, 3, some .long)
abbrev m_Mod_wasNull : zM := (⟨"TableMachineModel", "wasNull", "(II)Z"⟩, prog_13_method_37_code, 3, some .boolean)
abbrev m_Mod_ask : zM := (⟨"TableMachineModel", "ask", "(II)Z"⟩, prog_13_method_38_code, 3, some .boolean)
abbrev m_Mod_output : zM := (⟨"TableMachineModel", "output", "(II)Z"⟩, prog_13_method_41_code, 3, some .boolean)
abbrev m_Mod_isColumn : zM := (⟨"TableMachineModel", "isColumn", "(II)Z"⟩, prog_13_method_40_code, 4, some .boolean)
abbrev m_Mod_tableOf : zM := (⟨"TableMachineModel", "tableOf", "(I)I"⟩, prog_13_method_39_code, 2, some .int)
abbrev m_Mod_condition : zM := (⟨"TableMachineModel", "condition", "(IIII)Z"⟩, prog_13_method_42_code, 6, some .boolean)
abbrev m_Mod_join : zM := (⟨"TableMachineModel", "join", "(II)Z"⟩, prog_13_method_43_code, 3, some .boolean)
abbrev m_Mod_compile : zM := (⟨"TableMachineModel", "compile", "()I"⟩, prog_13_method_49_code, 7, some .int)
abbrev m_Mod_length : zM := (⟨"TableMachineModel", "length", "(I)I"⟩, prog_13_method_46_code, 4, some .int)
abbrev m_Mod_seeker : zM := (⟨"TableMachineModel", "seeker", "(I)I"⟩, prog_13_method_45_code, 6, some .int)
abbrev m_Mod_loop : zM := (⟨"TableMachineModel", "loop", "(III)I"⟩, prog_13_method_47_code, 8, some .int)
abbrev m_Mod_read : zM := (⟨"TableMachineModel", "read", "(III)V"⟩, prog_13_method_44_code, 4, none)
abbrev m_Mod_outputsAndResult : zM := (⟨"TableMachineModel", "outputsAndResult", "()V"⟩, prog_13_method_48_code, 2, none)
abbrev m_Lng_compare : zM := (⟨"java/lang/Long", "compare", "(JJ)I"⟩, prog_18_method_42_code, 4, some .int)
end
section
theorem g_TM_9 : zGi "TableMachine" 9 m_Mac_init 0 := ⟨⟨zWA_of (i := 33) (by decide +kernel) (by decide +kernel), zWA_of (i := 2) (by decide +kernel) (by decide +kernel), ⟨by decide +kernel, by decide +kernel, by decide +kernel⟩, by decide⟩, zWA_of (i := 31) (by decide +kernel) (by decide +kernel), zWA_of (i := 32) (by decide +kernel) (by decide +kernel), rfl, rfl⟩
theorem f_TM_10 : zFd "TableMachine" 10 0 0 := ⟨_, _, _, rfl, by decide, zu0, zWA_of (i := 234) (by decide +kernel) (by decide +kernel)⟩
theorem p_0_0 : zFp 0 0 (.object "TableMachine$Machine") true := fun _ _ _ h => by cases h; exact ⟨zt0, zk0, zn0, rfl, by decide +kernel⟩
theorem f_TM_16 : zFd "TableMachine" 16 1 0 := ⟨_, _, _, rfl, by decide, zu1, zWA_of (i := 162) (by decide +kernel) (by decide +kernel)⟩
theorem f_TM_20 : zFd "TableMachine" 20 0 1 := ⟨_, _, _, rfl, by decide, zu0, zWA_of (i := 235) (by decide +kernel) (by decide +kernel)⟩
theorem p_0_1 : zFp 0 1 (.object "TableMachine$Store") true := fun _ _ _ h => by cases h; exact ⟨zt0, zk0, zn0, rfl, by decide +kernel⟩
theorem f_TM_21 : zFd "TableMachine" 21 1 1 := ⟨_, _, _, rfl, by decide, zu1, zWA_of (i := 164) (by decide +kernel) (by decide +kernel)⟩
theorem f_TM_25 : zFd "TableMachine" 25 0 2 := ⟨_, _, _, rfl, by decide, zu0, zWA_of (i := 236) (by decide +kernel) (by decide +kernel)⟩
theorem p_0_2 : zFp 0 2 (.object "TableMachine$Program") true := fun _ _ _ h => by cases h; exact ⟨zt0, zk0, zn0, rfl, by decide +kernel⟩
theorem f_TM_26 : zFd "TableMachine" 26 1 2 := ⟨_, _, _, rfl, by decide, zu1, zWA_of (i := 166) (by decide +kernel) (by decide +kernel)⟩
theorem f_TM_30 : zFd "TableMachine" 30 0 3 := ⟨_, _, _, rfl, by decide, zu0, zWA_of (i := 237) (by decide +kernel) (by decide +kernel)⟩
theorem p_0_3 : zFp 0 3 (.object "TableMachine$Results") true := fun _ _ _ h => by cases h; exact ⟨zt0, zk0, zn0, rfl, by decide +kernel⟩
theorem g_TM_33 : zGi "TableMachine" 33 m_Val_init 1 := ⟨⟨zWA_of (i := 47) (by decide +kernel) (by decide +kernel), zWA_of (i := 4) (by decide +kernel) (by decide +kernel), ⟨by decide +kernel, by decide +kernel, by decide +kernel⟩, by decide⟩, zWA_of (i := 184) (by decide +kernel) (by decide +kernel), zWA_of (i := 46) (by decide +kernel) (by decide +kernel), rfl, rfl⟩
theorem f_TM_36 : zFd "TableMachine" 36 0 4 := ⟨_, _, _, rfl, by decide, zu0, zWA_of (i := 238) (by decide +kernel) (by decide +kernel)⟩
theorem p_0_4 : zFp 0 4 (.object "TableMachine$Values") true := fun _ _ _ h => by cases h; exact ⟨zt0, zk0, zn0, rfl, by decide +kernel⟩
theorem g_TM_42 : zGin "TableMachine" 42 m_Que_init 0 := ⟨⟨zWA_of (i := 189) (by decide +kernel) (by decide +kernel), zWA_of (i := 9) (by decide +kernel) (by decide +kernel), ⟨by decide +kernel, by decide +kernel, by decide +kernel⟩, by decide⟩, by decide +kernel, zWA_of (i := 188) (by decide +kernel) (by decide +kernel), rfl, rfl⟩
theorem f_TM_43 : zFd "TableMachine" 43 0 5 := ⟨_, _, _, rfl, by decide, zu0, zWA_of (i := 239) (by decide +kernel) (by decide +kernel)⟩
theorem p_0_5 : zFp 0 5 (.object "TableMachine$Question") true := fun _ _ _ h => by cases h; exact ⟨zt0, zk0, zn0, rfl, by decide +kernel⟩
theorem g_Mac_11 : zGi "TableMachine$Machine" 11 m_Sto_init 0 := ⟨⟨zWA_of (i := 39) (by decide +kernel) (by decide +kernel), zWA_of (i := 3) (by decide +kernel) (by decide +kernel), ⟨by decide +kernel, by decide +kernel, by decide +kernel⟩, by decide⟩, zWA_of (i := 37) (by decide +kernel) (by decide +kernel), zWA_of (i := 38) (by decide +kernel) (by decide +kernel), rfl, rfl⟩
theorem f_Mac_12 : zFd "TableMachine$Machine" 12 1 0 := ⟨_, _, _, rfl, by decide, zu1, zWA_of (i := 161) (by decide +kernel) (by decide +kernel)⟩
theorem p_1_0 : zFp 1 0 (.object "TableMachine$Store") true := fun _ _ _ h => by cases h; exact ⟨zt1, zk1, zn1, rfl, by decide +kernel⟩
theorem g_Mac_20 : zGin "TableMachine$Machine" 20 m_Pro_init 0 := ⟨⟨zWA_of (i := 105) (by decide +kernel) (by decide +kernel), zWA_of (i := 6) (by decide +kernel) (by decide +kernel), ⟨by decide +kernel, by decide +kernel, by decide +kernel⟩, by decide⟩, by decide +kernel, zWA_of (i := 104) (by decide +kernel) (by decide +kernel), rfl, rfl⟩
theorem f_Mac_21 : zFd "TableMachine$Machine" 21 1 1 := ⟨_, _, _, rfl, by decide, zu1, zWA_of (i := 163) (by decide +kernel) (by decide +kernel)⟩
theorem p_1_1 : zFp 1 1 (.object "TableMachine$Program") true := fun _ _ _ h => by cases h; exact ⟨zt1, zk1, zn1, rfl, by decide +kernel⟩
theorem g_Mac_27 : zGin "TableMachine$Machine" 27 m_Res_init 0 := ⟨⟨zWA_of (i := 121) (by decide +kernel) (by decide +kernel), zWA_of (i := 7) (by decide +kernel) (by decide +kernel), ⟨by decide +kernel, by decide +kernel, by decide +kernel⟩, by decide⟩, by decide +kernel, zWA_of (i := 120) (by decide +kernel) (by decide +kernel), rfl, rfl⟩
theorem f_Mac_28 : zFd "TableMachine$Machine" 28 1 2 := ⟨_, _, _, rfl, by decide, zu1, zWA_of (i := 165) (by decide +kernel) (by decide +kernel)⟩
theorem p_1_2 : zFp 1 2 (.object "TableMachine$Results") true := fun _ _ _ h => by cases h; exact ⟨zt1, zk1, zn1, rfl, by decide +kernel⟩
theorem g_Mac_34 : zGi "TableMachine$Machine" 34 m_Val_init 1 := ⟨⟨zWA_of (i := 47) (by decide +kernel) (by decide +kernel), zWA_of (i := 4) (by decide +kernel) (by decide +kernel), ⟨by decide +kernel, by decide +kernel, by decide +kernel⟩, by decide⟩, zWA_of (i := 140) (by decide +kernel) (by decide +kernel), zWA_of (i := 46) (by decide +kernel) (by decide +kernel), rfl, rfl⟩
theorem f_Mac_37 : zFd "TableMachine$Machine" 37 1 3 := ⟨_, _, _, rfl, by decide, zu1, zWA_of (i := 167) (by decide +kernel) (by decide +kernel)⟩
theorem p_1_3 : zFp 1 3 (.object "TableMachine$Values") true := fun _ _ _ h => by cases h; exact ⟨zt1, zk1, zn1, rfl, by decide +kernel⟩
theorem f_Mac_43 : zFd "TableMachine$Machine" 43 1 4 := ⟨_, _, _, rfl, by decide, zu1, zWA_of (i := 168) (by decide +kernel) (by decide +kernel)⟩
theorem p_1_4 : zFp 1 4 (.array (.object "TableMachine$Cursor")) true := fun _ _ _ h => by cases h; exact ⟨zt1, zk1, zn1, rfl, by decide +kernel⟩
theorem f_Mac_47 : zFd "TableMachine$Machine" 47 1 5 := ⟨_, _, _, rfl, by decide, zu1, zWA_of (i := 169) (by decide +kernel) (by decide +kernel)⟩
theorem p_1_5 : zFp 1 5 (.int) false := fun _ _ _ h => by cases h; exact ⟨zt1, zk1, zn1, rfl, by decide +kernel⟩
theorem g_Mac_51 : zGin "TableMachine$Machine" 51 m_Cur_init 0 := ⟨⟨zWA_of (i := 146) (by decide +kernel) (by decide +kernel), zWA_of (i := 8) (by decide +kernel) (by decide +kernel), ⟨by decide +kernel, by decide +kernel, by decide +kernel⟩, by decide⟩, by decide +kernel, zWA_of (i := 145) (by decide +kernel) (by decide +kernel), rfl, rfl⟩
theorem f_Sto_11 : zFd "TableMachine$Store" 11 2 0 := ⟨_, _, _, rfl, by decide, zu2, zWA_of (i := 78) (by decide +kernel) (by decide +kernel)⟩
theorem p_2_0 : zFp 2 0 (.array (.object "TableMachine$Table")) true := fun _ _ _ h => by cases h; exact ⟨zt2, zk2, zn2, rfl, by decide +kernel⟩
theorem f_Sto_17 : zFd "TableMachine$Store" 17 2 1 := ⟨_, _, _, rfl, by decide, zu2, zWA_of (i := 80) (by decide +kernel) (by decide +kernel)⟩
theorem p_2_1 : zFp 2 1 (.int) false := fun _ _ _ h => by cases h; exact ⟨zt2, zk2, zn2, rfl, by decide +kernel⟩
theorem g_Sto_23 : zGi "TableMachine$Store" 23 m_Val_init 1 := ⟨⟨zWA_of (i := 47) (by decide +kernel) (by decide +kernel), zWA_of (i := 4) (by decide +kernel) (by decide +kernel), ⟨by decide +kernel, by decide +kernel, by decide +kernel⟩, by decide⟩, zWA_of (i := 45) (by decide +kernel) (by decide +kernel), zWA_of (i := 46) (by decide +kernel) (by decide +kernel), rfl, rfl⟩
theorem f_Sto_26 : zFd "TableMachine$Store" 26 2 2 := ⟨_, _, _, rfl, by decide, zu2, zWA_of (i := 82) (by decide +kernel) (by decide +kernel)⟩
theorem p_2_2 : zFp 2 2 (.object "TableMachine$Values") true := fun _ _ _ h => by cases h; exact ⟨zt2, zk2, zn2, rfl, by decide +kernel⟩
theorem f_Sto_30 : zFd "TableMachine$Store" 30 2 3 := ⟨_, _, _, rfl, by decide, zu2, zWA_of (i := 85) (by decide +kernel) (by decide +kernel)⟩
theorem p_2_3 : zFp 2 3 (.array .long) true := fun _ _ _ h => by cases h; exact ⟨zt2, zk2, zn2, rfl, by decide +kernel⟩
theorem f_Sto_34 : zFd "TableMachine$Store" 34 2 4 := ⟨_, _, _, rfl, by decide, zu2, zWA_of (i := 86) (by decide +kernel) (by decide +kernel)⟩
theorem p_2_4 : zFp 2 4 (.array .int) true := fun _ _ _ h => by cases h; exact ⟨zt2, zk2, zn2, rfl, by decide +kernel⟩
theorem f_Sto_38 : zFd "TableMachine$Store" 38 2 5 := ⟨_, _, _, rfl, by decide, zu2, zWA_of (i := 87) (by decide +kernel) (by decide +kernel)⟩
theorem p_2_5 : zFp 2 5 (.int) false := fun _ _ _ h => by cases h; exact ⟨zt2, zk2, zn2, rfl, by decide +kernel⟩
theorem g_Sto_41 : zGin "TableMachine$Store" 41 m_Tab_init 0 := ⟨⟨zWA_of (i := 61) (by decide +kernel) (by decide +kernel), zWA_of (i := 5) (by decide +kernel) (by decide +kernel), ⟨by decide +kernel, by decide +kernel, by decide +kernel⟩, by decide⟩, by decide +kernel, zWA_of (i := 60) (by decide +kernel) (by decide +kernel), rfl, rfl⟩
theorem f_Val_7 : zFd "TableMachine$Values" 7 4 0 := ⟨_, _, _, rfl, by decide, zu4, zWA_of (i := 49) (by decide +kernel) (by decide +kernel)⟩
theorem p_4_0 : zFp 4 0 (.array .long) true := fun _ _ _ h => by cases h; exact ⟨zt4, zk4, zn4, rfl, by decide +kernel⟩
theorem f_Val_13 : zFd "TableMachine$Values" 13 4 1 := ⟨_, _, _, rfl, by decide, zu4, zWA_of (i := 50) (by decide +kernel) (by decide +kernel)⟩
theorem p_4_1 : zFp 4 1 (.array .boolean) true := fun _ _ _ h => by cases h; exact ⟨zt4, zk4, zn4, rfl, by decide +kernel⟩
theorem f_Tab_9 : zFd "TableMachine$Table" 9 3 0 := ⟨_, _, _, rfl, by decide, zu3, zWA_of (i := 63) (by decide +kernel) (by decide +kernel)⟩
theorem p_3_0 : zFp 3 0 (.int) false := fun _ _ _ h => by cases h; exact ⟨zt3, zk3, zn3, rfl, by decide +kernel⟩
theorem f_Tab_15 : zFd "TableMachine$Table" 15 3 1 := ⟨_, _, _, rfl, by decide, zu3, zWA_of (i := 65) (by decide +kernel) (by decide +kernel)⟩
theorem p_3_1 : zFp 3 1 (.int) false := fun _ _ _ h => by cases h; exact ⟨zt3, zk3, zn3, rfl, by decide +kernel⟩
theorem f_Tab_18 : zFd "TableMachine$Table" 18 3 2 := ⟨_, _, _, rfl, by decide, zu3, zWA_of (i := 68) (by decide +kernel) (by decide +kernel)⟩
theorem p_3_2 : zFp 3 2 (.array .int) true := fun _ _ _ h => by cases h; exact ⟨zt3, zk3, zn3, rfl, by decide +kernel⟩
theorem f_Pro_9 : zFd "TableMachine$Program" 9 6 0 := ⟨_, _, _, rfl, by decide, zu6, zWA_of (i := 107) (by decide +kernel) (by decide +kernel)⟩
theorem p_6_0 : zFp 6 0 (.int) false := fun _ _ _ h => by cases h; exact ⟨zt6, zk6, zn6, rfl, by decide +kernel⟩
theorem f_Pro_15 : zFd "TableMachine$Program" 15 6 1 := ⟨_, _, _, rfl, by decide, zu6, zWA_of (i := 111) (by decide +kernel) (by decide +kernel)⟩
theorem p_6_1 : zFp 6 1 (.array .int) true := fun _ _ _ h => by cases h; exact ⟨zt6, zk6, zn6, rfl, by decide +kernel⟩
theorem f_Res_9 : zFd "TableMachine$Results" 9 7 0 := ⟨_, _, _, rfl, by decide, zu7, zWA_of (i := 125) (by decide +kernel) (by decide +kernel)⟩
theorem p_7_0 : zFp 7 0 (.int) false := fun _ _ _ h => by cases h; exact ⟨zt7, zk7, zn7, rfl, by decide +kernel⟩
theorem f_Res_15 : zFd "TableMachine$Results" 15 7 1 := ⟨_, _, _, rfl, by decide, zu7, zWA_of (i := 128) (by decide +kernel) (by decide +kernel)⟩
theorem p_7_1 : zFp 7 1 (.array .int) true := fun _ _ _ h => by cases h; exact ⟨zt7, zk7, zn7, rfl, by decide +kernel⟩
theorem g_Res_21 : zGi "TableMachine$Results" 21 m_Val_init 1 := ⟨⟨zWA_of (i := 47) (by decide +kernel) (by decide +kernel), zWA_of (i := 4) (by decide +kernel) (by decide +kernel), ⟨by decide +kernel, by decide +kernel, by decide +kernel⟩, by decide⟩, zWA_of (i := 124) (by decide +kernel) (by decide +kernel), zWA_of (i := 46) (by decide +kernel) (by decide +kernel), rfl, rfl⟩
theorem f_Res_24 : zFd "TableMachine$Results" 24 7 2 := ⟨_, _, _, rfl, by decide, zu7, zWA_of (i := 130) (by decide +kernel) (by decide +kernel)⟩
theorem p_7_2 : zFp 7 2 (.object "TableMachine$Values") true := fun _ _ _ h => by cases h; exact ⟨zt7, zk7, zn7, rfl, by decide +kernel⟩
theorem f_Cur_9 : zFd "TableMachine$Cursor" 9 5 0 := ⟨_, _, _, rfl, by decide, zu5, zWA_of (i := 148) (by decide +kernel) (by decide +kernel)⟩
theorem p_5_0 : zFp 5 0 (.int) false := fun _ _ _ h => by cases h; exact ⟨zt5, zk5, zn5, rfl, by decide +kernel⟩
theorem f_Cur_15 : zFd "TableMachine$Cursor" 15 5 1 := ⟨_, _, _, rfl, by decide, zu5, zWA_of (i := 150) (by decide +kernel) (by decide +kernel)⟩
theorem p_5_1 : zFp 5 1 (.boolean) false := fun _ _ _ h => by cases h; exact ⟨zt5, zk5, zn5, rfl, by decide +kernel⟩
theorem f_Cur_19 : zFd "TableMachine$Cursor" 19 5 2 := ⟨_, _, _, rfl, by decide, zu5, zWA_of (i := 152) (by decide +kernel) (by decide +kernel)⟩
theorem p_5_2 : zFp 5 2 (.long) false := fun _ _ _ h => by cases h; exact ⟨zt5, zk5, zn5, rfl, by decide +kernel⟩
theorem f_Que_9 : zFd "TableMachine$Question" 9 8 0 := ⟨_, _, _, rfl, by decide, zu8, zWA_of (i := 191) (by decide +kernel) (by decide +kernel)⟩
theorem p_8_0 : zFp 8 0 (.array .int) true := fun _ _ _ h => by cases h; exact ⟨zt8, zk8, zn8, rfl, by decide +kernel⟩
theorem f_Que_15 : zFd "TableMachine$Question" 15 8 1 := ⟨_, _, _, rfl, by decide, zu8, zWA_of (i := 193) (by decide +kernel) (by decide +kernel)⟩
theorem p_8_1 : zFp 8 1 (.int) false := fun _ _ _ h => by cases h; exact ⟨zt8, zk8, zn8, rfl, by decide +kernel⟩
theorem f_Que_19 : zFd "TableMachine$Question" 19 8 2 := ⟨_, _, _, rfl, by decide, zu8, zWA_of (i := 195) (by decide +kernel) (by decide +kernel)⟩
theorem p_8_2 : zFp 8 2 (.int) false := fun _ _ _ h => by cases h; exact ⟨zt8, zk8, zn8, rfl, by decide +kernel⟩
theorem f_Que_22 : zFd "TableMachine$Question" 22 8 3 := ⟨_, _, _, rfl, by decide, zu8, zWA_of (i := 197) (by decide +kernel) (by decide +kernel)⟩
theorem p_8_3 : zFp 8 3 (.int) false := fun _ _ _ h => by cases h; exact ⟨zt8, zk8, zn8, rfl, by decide +kernel⟩
theorem f_Que_25 : zFd "TableMachine$Question" 25 8 4 := ⟨_, _, _, rfl, by decide, zu8, zWA_of (i := 198) (by decide +kernel) (by decide +kernel)⟩
theorem p_8_4 : zFp 8 4 (.array .int) true := fun _ _ _ h => by cases h; exact ⟨zt8, zk8, zn8, rfl, by decide +kernel⟩
theorem f_Que_28 : zFd "TableMachine$Question" 28 8 5 := ⟨_, _, _, rfl, by decide, zu8, zWA_of (i := 199) (by decide +kernel) (by decide +kernel)⟩
theorem p_8_5 : zFp 8 5 (.array .int) true := fun _ _ _ h => by cases h; exact ⟨zt8, zk8, zn8, rfl, by decide +kernel⟩
theorem f_Que_31 : zFd "TableMachine$Question" 31 8 6 := ⟨_, _, _, rfl, by decide, zu8, zWA_of (i := 200) (by decide +kernel) (by decide +kernel)⟩
theorem p_8_6 : zFp 8 6 (.array .int) true := fun _ _ _ h => by cases h; exact ⟨zt8, zk8, zn8, rfl, by decide +kernel⟩
theorem f_Que_34 : zFd "TableMachine$Question" 34 8 7 := ⟨_, _, _, rfl, by decide, zu8, zWA_of (i := 201) (by decide +kernel) (by decide +kernel)⟩
theorem p_8_7 : zFp 8 7 (.array .int) true := fun _ _ _ h => by cases h; exact ⟨zt8, zk8, zn8, rfl, by decide +kernel⟩
theorem f_Que_37 : zFd "TableMachine$Question" 37 8 8 := ⟨_, _, _, rfl, by decide, zu8, zWA_of (i := 202) (by decide +kernel) (by decide +kernel)⟩
theorem p_8_8 : zFp 8 8 (.array .int) true := fun _ _ _ h => by cases h; exact ⟨zt8, zk8, zn8, rfl, by decide +kernel⟩
theorem f_Que_40 : zFd "TableMachine$Question" 40 8 9 := ⟨_, _, _, rfl, by decide, zu8, zWA_of (i := 203) (by decide +kernel) (by decide +kernel)⟩
theorem p_8_9 : zFp 8 9 (.array .int) true := fun _ _ _ h => by cases h; exact ⟨zt8, zk8, zn8, rfl, by decide +kernel⟩
theorem f_Que_43 : zFd "TableMachine$Question" 43 8 10 := ⟨_, _, _, rfl, by decide, zu8, zWA_of (i := 204) (by decide +kernel) (by decide +kernel)⟩
theorem p_8_10 : zFp 8 10 (.boolean) false := fun _ _ _ h => by cases h; exact ⟨zt8, zk8, zn8, rfl, by decide +kernel⟩
theorem f_Que_47 : zFd "TableMachine$Question" 47 8 11 := ⟨_, _, _, rfl, by decide, zu8, zWA_of (i := 205) (by decide +kernel) (by decide +kernel)⟩
theorem p_8_11 : zFp 8 11 (.int) false := fun _ _ _ h => by cases h; exact ⟨zt8, zk8, zn8, rfl, by decide +kernel⟩
theorem f_Que_50 : zFd "TableMachine$Question" 50 8 12 := ⟨_, _, _, rfl, by decide, zu8, zWA_of (i := 206) (by decide +kernel) (by decide +kernel)⟩
theorem p_8_12 : zFp 8 12 (.int) false := fun _ _ _ h => by cases h; exact ⟨zt8, zk8, zn8, rfl, by decide +kernel⟩
theorem g_TM_69 : zGs "TableMachine" 69 m_TM_isIndex 2 := ⟨⟨zWA_of (i := 259) (by decide +kernel) (by decide +kernel), zWA_of (i := 1) (by decide +kernel) (by decide +kernel), ⟨by decide +kernel, by decide +kernel, by decide +kernel⟩, by decide⟩, zWA_of (i := 257) (by decide +kernel) (by decide +kernel), zWA_of (i := 258) (by decide +kernel) (by decide +kernel)⟩
theorem g_TM_73 : zGv "TableMachine" 73 m_Val_put 2 := ⟨⟨zWA_of (i := 263) (by decide +kernel) (by decide +kernel), zWA_of (i := 4) (by decide +kernel) (by decide +kernel), ⟨by decide +kernel, by decide +kernel, by decide +kernel⟩, by decide⟩, zWA_of (i := 260) (by decide +kernel) (by decide +kernel), zWA_of (i := 261) (by decide +kernel) (by decide +kernel), zWA_of (i := 262) (by decide +kernel) (by decide +kernel)⟩
theorem g_TM_77 : zGv "TableMachine" 77 m_Val_clear 1 := ⟨⟨zWA_of (i := 267) (by decide +kernel) (by decide +kernel), zWA_of (i := 4) (by decide +kernel) (by decide +kernel), ⟨by decide +kernel, by decide +kernel, by decide +kernel⟩, by decide⟩, zWA_of (i := 264) (by decide +kernel) (by decide +kernel), zWA_of (i := 265) (by decide +kernel) (by decide +kernel), zWA_of (i := 266) (by decide +kernel) (by decide +kernel)⟩
theorem g_TM_97 : zGv "TableMachine" 97 m_Sto_hasTable 1 := ⟨⟨zWA_of (i := 275) (by decide +kernel) (by decide +kernel), zWA_of (i := 3) (by decide +kernel) (by decide +kernel), ⟨by decide +kernel, by decide +kernel, by decide +kernel⟩, by decide⟩, zWA_of (i := 272) (by decide +kernel) (by decide +kernel), zWA_of (i := 273) (by decide +kernel) (by decide +kernel), zWA_of (i := 274) (by decide +kernel) (by decide +kernel)⟩
theorem f_TM_101 : zFd "TableMachine" 101 2 0 := ⟨_, _, _, rfl, by decide, zu2, zWA_of (i := 79) (by decide +kernel) (by decide +kernel)⟩
theorem f_TM_105 : zFd "TableMachine" 105 3 1 := ⟨_, _, _, rfl, by decide, zu3, zWA_of (i := 67) (by decide +kernel) (by decide +kernel)⟩
theorem g_Sto_45 : zGn "TableMachine$Store" 45 m_TM_isIndex 2 := ⟨⟨zWA_of (i := 259) (by decide +kernel) (by decide +kernel), zWA_of (i := 1) (by decide +kernel) (by decide +kernel), ⟨by decide +kernel, by decide +kernel, by decide +kernel⟩, by decide⟩, by decide +kernel, zWA_of (i := 258) (by decide +kernel) (by decide +kernel)⟩
theorem f_TM_148 : zFd "TableMachine" 148 6 0 := ⟨_, _, _, rfl, by decide, zu6, zWA_of (i := 110) (by decide +kernel) (by decide +kernel)⟩
theorem g_TM_194 : zGv "TableMachine" 194 m_Que_begin 2 := ⟨⟨zWA_of (i := 288) (by decide +kernel) (by decide +kernel), zWA_of (i := 9) (by decide +kernel) (by decide +kernel), ⟨by decide +kernel, by decide +kernel, by decide +kernel⟩, by decide⟩, zWA_of (i := 285) (by decide +kernel) (by decide +kernel), zWA_of (i := 286) (by decide +kernel) (by decide +kernel), zWA_of (i := 287) (by decide +kernel) (by decide +kernel)⟩
theorem f_TM_197 : zFd "TableMachine" 197 8 1 := ⟨_, _, _, rfl, by decide, zu8, zWA_of (i := 194) (by decide +kernel) (by decide +kernel)⟩
theorem g_TM_200 : zGv "TableMachine" 200 m_TM_canAskFor 2 := ⟨⟨zWA_of (i := 296) (by decide +kernel) (by decide +kernel), zWA_of (i := 1) (by decide +kernel) (by decide +kernel), ⟨by decide +kernel, by decide +kernel, by decide +kernel⟩, by decide⟩, zWA_of (i := 293) (by decide +kernel) (by decide +kernel), zWA_of (i := 295) (by decide +kernel) (by decide +kernel), zWA_sel (i := 0) (by decide +kernel) (by decide +kernel)⟩
theorem g_TM_203 : zGv "TableMachine" 203 m_Que_bringOutput 2 := ⟨⟨zWA_of (i := 310) (by decide +kernel) (by decide +kernel), zWA_of (i := 9) (by decide +kernel) (by decide +kernel), ⟨by decide +kernel, by decide +kernel, by decide +kernel⟩, by decide⟩, zWA_of (i := 307) (by decide +kernel) (by decide +kernel), zWA_of (i := 308) (by decide +kernel) (by decide +kernel), zWA_of (i := 309) (by decide +kernel) (by decide +kernel)⟩
theorem g_TM_236 : zGv "TableMachine" 236 m_Que_hasCursor 1 := ⟨⟨zWA_of (i := 300) (by decide +kernel) (by decide +kernel), zWA_of (i := 9) (by decide +kernel) (by decide +kernel), ⟨by decide +kernel, by decide +kernel, by decide +kernel⟩, by decide⟩, zWA_of (i := 297) (by decide +kernel) (by decide +kernel), zWA_of (i := 298) (by decide +kernel) (by decide +kernel), zWA_of (i := 299) (by decide +kernel) (by decide +kernel)⟩
theorem f_TM_239 : zFd "TableMachine" 239 8 0 := ⟨_, _, _, rfl, by decide, zu8, zWA_of (i := 192) (by decide +kernel) (by decide +kernel)⟩
theorem g_TM_223 : zGv "TableMachine" 223 m_Sto_hasColumn 2 := ⟨⟨zWA_of (i := 305) (by decide +kernel) (by decide +kernel), zWA_of (i := 3) (by decide +kernel) (by decide +kernel), ⟨by decide +kernel, by decide +kernel, by decide +kernel⟩, by decide⟩, zWA_of (i := 302) (by decide +kernel) (by decide +kernel), zWA_of (i := 303) (by decide +kernel) (by decide +kernel), zWA_of (i := 304) (by decide +kernel) (by decide +kernel)⟩
theorem g_Que_53 : zGn "TableMachine$Question" 53 m_TM_isIndex 2 := ⟨⟨zWA_of (i := 259) (by decide +kernel) (by decide +kernel), zWA_of (i := 1) (by decide +kernel) (by decide +kernel), ⟨by decide +kernel, by decide +kernel, by decide +kernel⟩, by decide⟩, by decide +kernel, zWA_of (i := 258) (by decide +kernel) (by decide +kernel)⟩
theorem g_Sto_49 : zGv "TableMachine$Store" 49 m_Sto_hasTable 1 := ⟨⟨zWA_of (i := 275) (by decide +kernel) (by decide +kernel), zWA_of (i := 3) (by decide +kernel) (by decide +kernel), ⟨by decide +kernel, by decide +kernel, by decide +kernel⟩, by decide⟩, zWA_of (i := 306) (by decide +kernel) (by decide +kernel), zWA_of (i := 273) (by decide +kernel) (by decide +kernel), zWA_of (i := 274) (by decide +kernel) (by decide +kernel)⟩
theorem f_Sto_42 : zFd "TableMachine$Store" 42 3 0 := ⟨_, _, _, rfl, by decide, zu3, zWA_of (i := 64) (by decide +kernel) (by decide +kernel)⟩
theorem f_TM_206 : zFd "TableMachine" 206 8 2 := ⟨_, _, _, rfl, by decide, zu8, zWA_of (i := 196) (by decide +kernel) (by decide +kernel)⟩
theorem g_TM_209 : zGv "TableMachine" 209 m_Que_bringCondition 4 := ⟨⟨zWA_of (i := 318) (by decide +kernel) (by decide +kernel), zWA_of (i := 9) (by decide +kernel) (by decide +kernel), ⟨by decide +kernel, by decide +kernel, by decide +kernel⟩, by decide⟩, zWA_of (i := 315) (by decide +kernel) (by decide +kernel), zWA_of (i := 316) (by decide +kernel) (by decide +kernel), zWA_of (i := 317) (by decide +kernel) (by decide +kernel)⟩
theorem g_TM_212 : zGv "TableMachine" 212 m_Que_bringJoin 2 := ⟨⟨zWA_of (i := 326) (by decide +kernel) (by decide +kernel), zWA_of (i := 9) (by decide +kernel) (by decide +kernel), ⟨by decide +kernel, by decide +kernel, by decide +kernel⟩, by decide⟩, zWA_of (i := 323) (by decide +kernel) (by decide +kernel), zWA_of (i := 324) (by decide +kernel) (by decide +kernel), zWA_of (i := 325) (by decide +kernel) (by decide +kernel)⟩
theorem f_TM_54 : zFd "TableMachine" 54 2 1 := ⟨_, _, _, rfl, by decide, zu2, zWA_of (i := 81) (by decide +kernel) (by decide +kernel)⟩
theorem g_TM_65 : zGv "TableMachine" 65 m_Sto_begin 1 := ⟨⟨zWA_of (i := 424) (by decide +kernel) (by decide +kernel), zWA_of (i := 3) (by decide +kernel) (by decide +kernel), ⟨by decide +kernel, by decide +kernel, by decide +kernel⟩, by decide⟩, zWA_of (i := 421) (by decide +kernel) (by decide +kernel), zWA_of (i := 422) (by decide +kernel) (by decide +kernel), zWA_of (i := 423) (by decide +kernel) (by decide +kernel)⟩
theorem g_TM_80 : zGv "TableMachine" 80 m_TM_requireTable 1 := ⟨⟨zWA_of (i := 435) (by decide +kernel) (by decide +kernel), zWA_of (i := 1) (by decide +kernel) (by decide +kernel), ⟨by decide +kernel, by decide +kernel, by decide +kernel⟩, by decide⟩, zWA_of (i := 432) (by decide +kernel) (by decide +kernel), zWA_of (i := 434) (by decide +kernel) (by decide +kernel), zWA_sel (i := 2) (by decide +kernel) (by decide +kernel)⟩
theorem g_TM_83 : zGv "TableMachine" 83 m_Sto_isFull 0 := ⟨⟨zWA_of (i := 440) (by decide +kernel) (by decide +kernel), zWA_of (i := 3) (by decide +kernel) (by decide +kernel), ⟨by decide +kernel, by decide +kernel, by decide +kernel⟩, by decide⟩, zWA_of (i := 437) (by decide +kernel) (by decide +kernel), zWA_of (i := 438) (by decide +kernel) (by decide +kernel), zWA_of (i := 439) (by decide +kernel) (by decide +kernel)⟩
theorem g_TM_89 : zGv "TableMachine" 89 m_Sto_bring 4 := ⟨⟨zWA_of (i := 445) (by decide +kernel) (by decide +kernel), zWA_of (i := 3) (by decide +kernel) (by decide +kernel), ⟨by decide +kernel, by decide +kernel, by decide +kernel⟩, by decide⟩, zWA_of (i := 442) (by decide +kernel) (by decide +kernel), zWA_of (i := 443) (by decide +kernel) (by decide +kernel), zWA_of (i := 444) (by decide +kernel) (by decide +kernel)⟩
theorem g_Sto_59 : zGv "TableMachine$Store" 59 m_Sto_rowsBelow 3 := ⟨⟨zWA_of (i := 449) (by decide +kernel) (by decide +kernel), zWA_of (i := 3) (by decide +kernel) (by decide +kernel), ⟨by decide +kernel, by decide +kernel, by decide +kernel⟩, by decide⟩, zWA_of (i := 446) (by decide +kernel) (by decide +kernel), zWA_of (i := 447) (by decide +kernel) (by decide +kernel), zWA_of (i := 448) (by decide +kernel) (by decide +kernel)⟩
theorem g_Sto_67 : zGv "TableMachine$Store" 67 m_Sto_isFull 0 := ⟨⟨zWA_of (i := 440) (by decide +kernel) (by decide +kernel), zWA_of (i := 3) (by decide +kernel) (by decide +kernel), ⟨by decide +kernel, by decide +kernel, by decide +kernel⟩, by decide⟩, zWA_of (i := 450) (by decide +kernel) (by decide +kernel), zWA_of (i := 438) (by decide +kernel) (by decide +kernel), zWA_of (i := 439) (by decide +kernel) (by decide +kernel)⟩
theorem g_Sto_63 : zGv "TableMachine$Store" 63 m_Sto_isAt 3 := ⟨⟨zWA_of (i := 454) (by decide +kernel) (by decide +kernel), zWA_of (i := 3) (by decide +kernel) (by decide +kernel), ⟨by decide +kernel, by decide +kernel, by decide +kernel⟩, by decide⟩, zWA_of (i := 451) (by decide +kernel) (by decide +kernel), zWA_of (i := 453) (by decide +kernel) (by decide +kernel), zWA_sel (i := 3) (by decide +kernel) (by decide +kernel)⟩
theorem g_Sto_71 : zGv "TableMachine$Store" 71 m_Val_copy 3 := ⟨⟨zWA_of (i := 458) (by decide +kernel) (by decide +kernel), zWA_of (i := 4) (by decide +kernel) (by decide +kernel), ⟨by decide +kernel, by decide +kernel, by decide +kernel⟩, by decide⟩, zWA_of (i := 455) (by decide +kernel) (by decide +kernel), zWA_of (i := 456) (by decide +kernel) (by decide +kernel), zWA_of (i := 457) (by decide +kernel) (by decide +kernel)⟩
theorem g_Sto_75 : zGv "TableMachine$Store" 75 m_Tab_open 2 := ⟨⟨zWA_of (i := 462) (by decide +kernel) (by decide +kernel), zWA_of (i := 5) (by decide +kernel) (by decide +kernel), ⟨by decide +kernel, by decide +kernel, by decide +kernel⟩, by decide⟩, zWA_of (i := 459) (by decide +kernel) (by decide +kernel), zWA_of (i := 460) (by decide +kernel) (by decide +kernel), zWA_of (i := 461) (by decide +kernel) (by decide +kernel)⟩
theorem f_Sto_53 : zFd "TableMachine$Store" 53 3 1 := ⟨_, _, _, rfl, by decide, zu3, zWA_of (i := 66) (by decide +kernel) (by decide +kernel)⟩
theorem f_Sto_56 : zFd "TableMachine$Store" 56 3 2 := ⟨_, _, _, rfl, by decide, zu3, zWA_of (i := 69) (by decide +kernel) (by decide +kernel)⟩
theorem g_TM_93 : zGv "TableMachine" 93 m_Sto_drop 2 := ⟨⟨zWA_of (i := 473) (by decide +kernel) (by decide +kernel), zWA_of (i := 3) (by decide +kernel) (by decide +kernel), ⟨by decide +kernel, by decide +kernel, by decide +kernel⟩, by decide⟩, zWA_of (i := 470) (by decide +kernel) (by decide +kernel), zWA_of (i := 471) (by decide +kernel) (by decide +kernel), zWA_of (i := 472) (by decide +kernel) (by decide +kernel)⟩
theorem g_Sto_79 : zGv "TableMachine$Store" 79 m_Tab_close 1 := ⟨⟨zWA_of (i := 477) (by decide +kernel) (by decide +kernel), zWA_of (i := 5) (by decide +kernel) (by decide +kernel), ⟨by decide +kernel, by decide +kernel, by decide +kernel⟩, by decide⟩, zWA_of (i := 474) (by decide +kernel) (by decide +kernel), zWA_of (i := 475) (by decide +kernel) (by decide +kernel), zWA_of (i := 476) (by decide +kernel) (by decide +kernel)⟩
theorem g_TM_110 : zGv "TableMachine" 110 m_Sto_rowsBelow 3 := ⟨⟨zWA_of (i := 449) (by decide +kernel) (by decide +kernel), zWA_of (i := 3) (by decide +kernel) (by decide +kernel), ⟨by decide +kernel, by decide +kernel, by decide +kernel⟩, by decide⟩, zWA_of (i := 486) (by decide +kernel) (by decide +kernel), zWA_of (i := 447) (by decide +kernel) (by decide +kernel), zWA_of (i := 448) (by decide +kernel) (by decide +kernel)⟩
theorem g_TM_114 : zGv "TableMachine" 114 m_Sto_hasPlace 2 := ⟨⟨zWA_of (i := 490) (by decide +kernel) (by decide +kernel), zWA_of (i := 3) (by decide +kernel) (by decide +kernel), ⟨by decide +kernel, by decide +kernel, by decide +kernel⟩, by decide⟩, zWA_of (i := 487) (by decide +kernel) (by decide +kernel), zWA_of (i := 488) (by decide +kernel) (by decide +kernel), zWA_of (i := 489) (by decide +kernel) (by decide +kernel)⟩
theorem g_TM_122 : zGv "TableMachine" 122 m_Sto_keyAt 2 := ⟨⟨zWA_of (i := 510) (by decide +kernel) (by decide +kernel), zWA_of (i := 3) (by decide +kernel) (by decide +kernel), ⟨by decide +kernel, by decide +kernel, by decide +kernel⟩, by decide⟩, zWA_of (i := 507) (by decide +kernel) (by decide +kernel), zWA_of (i := 508) (by decide +kernel) (by decide +kernel), zWA_of (i := 509) (by decide +kernel) (by decide +kernel)⟩
theorem f_TM_126 : zFd "TableMachine" 126 2 2 := ⟨_, _, _, rfl, by decide, zu2, zWA_of (i := 83) (by decide +kernel) (by decide +kernel)⟩
theorem g_TM_129 : zGv "TableMachine" 129 m_TM_requireCell 3 := ⟨⟨zWA_of (i := 521) (by decide +kernel) (by decide +kernel), zWA_of (i := 1) (by decide +kernel) (by decide +kernel), ⟨by decide +kernel, by decide +kernel, by decide +kernel⟩, by decide⟩, zWA_of (i := 518) (by decide +kernel) (by decide +kernel), zWA_of (i := 520) (by decide +kernel) (by decide +kernel), zWA_sel (i := 4) (by decide +kernel) (by decide +kernel)⟩
theorem g_TM_133 : zGv "TableMachine" 133 m_Val_number 1 := ⟨⟨zWA_of (i := 531) (by decide +kernel) (by decide +kernel), zWA_of (i := 4) (by decide +kernel) (by decide +kernel), ⟨by decide +kernel, by decide +kernel, by decide +kernel⟩, by decide⟩, zWA_of (i := 528) (by decide +kernel) (by decide +kernel), zWA_of (i := 529) (by decide +kernel) (by decide +kernel), zWA_of (i := 530) (by decide +kernel) (by decide +kernel)⟩
theorem g_TM_228 : zGv "TableMachine" 228 m_Sto_slotOf 2 := ⟨⟨zWA_of (i := 526) (by decide +kernel) (by decide +kernel), zWA_of (i := 3) (by decide +kernel) (by decide +kernel), ⟨by decide +kernel, by decide +kernel, by decide +kernel⟩, by decide⟩, zWA_of (i := 523) (by decide +kernel) (by decide +kernel), zWA_of (i := 524) (by decide +kernel) (by decide +kernel), zWA_of (i := 525) (by decide +kernel) (by decide +kernel)⟩
theorem g_TM_137 : zGv "TableMachine" 137 m_Val_has 1 := ⟨⟨zWA_of (i := 542) (by decide +kernel) (by decide +kernel), zWA_of (i := 4) (by decide +kernel) (by decide +kernel), ⟨by decide +kernel, by decide +kernel, by decide +kernel⟩, by decide⟩, zWA_of (i := 539) (by decide +kernel) (by decide +kernel), zWA_of (i := 540) (by decide +kernel) (by decide +kernel), zWA_of (i := 541) (by decide +kernel) (by decide +kernel)⟩
theorem g_TM_140 : zGs "TableMachine" 140 m_Op_accepts 4 := ⟨⟨zWA_of (i := 552) (by decide +kernel) (by decide +kernel), zWA_of (i := 17) (by decide +kernel) (by decide +kernel), ⟨by decide +kernel, by decide +kernel, by decide +kernel⟩, by decide⟩, zWA_of (i := 550) (by decide +kernel) (by decide +kernel), zWA_of (i := 551) (by decide +kernel) (by decide +kernel)⟩
theorem g_TM_153 : zGs "TableMachine" 153 m_Op_kept 3 := ⟨⟨zWA_of (i := 567) (by decide +kernel) (by decide +kernel), zWA_of (i := 17) (by decide +kernel) (by decide +kernel), ⟨by decide +kernel, by decide +kernel, by decide +kernel⟩, by decide⟩, zWA_of (i := 565) (by decide +kernel) (by decide +kernel), zWA_of (i := 566) (by decide +kernel) (by decide +kernel)⟩
theorem g_TM_157 : zGv "TableMachine" 157 m_Pro_append 4 := ⟨⟨zWA_of (i := 571) (by decide +kernel) (by decide +kernel), zWA_of (i := 6) (by decide +kernel) (by decide +kernel), ⟨by decide +kernel, by decide +kernel, by decide +kernel⟩, by decide⟩, zWA_of (i := 568) (by decide +kernel) (by decide +kernel), zWA_of (i := 569) (by decide +kernel) (by decide +kernel), zWA_of (i := 570) (by decide +kernel) (by decide +kernel)⟩
theorem g_Op_15 : zGn "TableMachine$Op" 15 m_TM_isIndex 2 := ⟨⟨zWA_of (i := 259) (by decide +kernel) (by decide +kernel), zWA_of (i := 1) (by decide +kernel) (by decide +kernel), ⟨by decide +kernel, by decide +kernel, by decide +kernel⟩, by decide⟩, by decide +kernel, zWA_of (i := 258) (by decide +kernel) (by decide +kernel)⟩
theorem g_Op_19 : zGs "TableMachine$Op" 19 m_Op_kind 2 := ⟨⟨zWA_of (i := 556) (by decide +kernel) (by decide +kernel), zWA_of (i := 17) (by decide +kernel) (by decide +kernel), ⟨by decide +kernel, by decide +kernel, by decide +kernel⟩, by decide⟩, zWA_of (i := 554) (by decide +kernel) (by decide +kernel), zWA_of (i := 555) (by decide +kernel) (by decide +kernel)⟩
theorem g_Op_23 : zGs "TableMachine$Op" 23 m_Kin_takes 2 := ⟨⟨zWA_of (i := 561) (by decide +kernel) (by decide +kernel), zWA_of (i := 18) (by decide +kernel) (by decide +kernel), ⟨by decide +kernel, by decide +kernel, by decide +kernel⟩, by decide⟩, zWA_of (i := 559) (by decide +kernel) (by decide +kernel), zWA_of (i := 560) (by decide +kernel) (by decide +kernel)⟩
theorem g_Kin_9 : zGn "TableMachine$Kind" 9 m_TM_isIndex 2 := ⟨⟨zWA_of (i := 259) (by decide +kernel) (by decide +kernel), zWA_of (i := 1) (by decide +kernel) (by decide +kernel), ⟨by decide +kernel, by decide +kernel, by decide +kernel⟩, by decide⟩, by decide +kernel, zWA_of (i := 258) (by decide +kernel) (by decide +kernel)⟩
theorem g_TM_166 : zGv "TableMachine" 166 m_Pro_word 2 := ⟨⟨zWA_of (i := 599) (by decide +kernel) (by decide +kernel), zWA_of (i := 6) (by decide +kernel) (by decide +kernel), ⟨by decide +kernel, by decide +kernel, by decide +kernel⟩, by decide⟩, zWA_of (i := 596) (by decide +kernel) (by decide +kernel), zWA_of (i := 597) (by decide +kernel) (by decide +kernel), zWA_of (i := 598) (by decide +kernel) (by decide +kernel)⟩
theorem g_TM_172 : zGv "TableMachine" 172 m_Pro_isSound 1 := ⟨⟨zWA_of (i := 611) (by decide +kernel) (by decide +kernel), zWA_of (i := 6) (by decide +kernel) (by decide +kernel), ⟨by decide +kernel, by decide +kernel, by decide +kernel⟩, by decide⟩, zWA_of (i := 608) (by decide +kernel) (by decide +kernel), zWA_of (i := 609) (by decide +kernel) (by decide +kernel), zWA_of (i := 610) (by decide +kernel) (by decide +kernel)⟩
theorem g_TM_177 : zGv "TableMachine" 177 m_Mac_execute 1 := ⟨⟨zWA_of (i := 618) (by decide +kernel) (by decide +kernel), zWA_of (i := 2) (by decide +kernel) (by decide +kernel), ⟨by decide +kernel, by decide +kernel, by decide +kernel⟩, by decide⟩, zWA_of (i := 615) (by decide +kernel) (by decide +kernel), zWA_of (i := 616) (by decide +kernel) (by decide +kernel), zWA_of (i := 617) (by decide +kernel) (by decide +kernel)⟩
theorem g_Pro_19 : zGv "TableMachine$Program" 19 m_Pro_word 2 := ⟨⟨zWA_of (i := 599) (by decide +kernel) (by decide +kernel), zWA_of (i := 6) (by decide +kernel) (by decide +kernel), ⟨by decide +kernel, by decide +kernel, by decide +kernel⟩, by decide⟩, zWA_of (i := 612) (by decide +kernel) (by decide +kernel), zWA_of (i := 597) (by decide +kernel) (by decide +kernel), zWA_of (i := 598) (by decide +kernel) (by decide +kernel)⟩
theorem g_Pro_23 : zGs "TableMachine$Program" 23 m_Op_kind 2 := ⟨⟨zWA_of (i := 556) (by decide +kernel) (by decide +kernel), zWA_of (i := 17) (by decide +kernel) (by decide +kernel), ⟨by decide +kernel, by decide +kernel, by decide +kernel⟩, by decide⟩, zWA_of (i := 613) (by decide +kernel) (by decide +kernel), zWA_of (i := 555) (by decide +kernel) (by decide +kernel)⟩
theorem g_Mac_52 : zGv "TableMachine$Machine" 52 m_Mac_reset 0 := ⟨⟨zWA_of (i := 622) (by decide +kernel) (by decide +kernel), zWA_of (i := 2) (by decide +kernel) (by decide +kernel), ⟨by decide +kernel, by decide +kernel, by decide +kernel⟩, by decide⟩, zWA_of (i := 619) (by decide +kernel) (by decide +kernel), zWA_of (i := 621) (by decide +kernel) (by decide +kernel), zWA_sel (i := 5) (by decide +kernel) (by decide +kernel)⟩
theorem f_Mac_55 : zFd "TableMachine$Machine" 55 6 0 := ⟨_, _, _, rfl, by decide, zu6, zWA_of (i := 108) (by decide +kernel) (by decide +kernel)⟩
theorem g_Mac_58 : zGv "TableMachine$Machine" 58 m_Pro_word 2 := ⟨⟨zWA_of (i := 599) (by decide +kernel) (by decide +kernel), zWA_of (i := 6) (by decide +kernel) (by decide +kernel), ⟨by decide +kernel, by decide +kernel, by decide +kernel⟩, by decide⟩, zWA_of (i := 636) (by decide +kernel) (by decide +kernel), zWA_of (i := 597) (by decide +kernel) (by decide +kernel), zWA_of (i := 598) (by decide +kernel) (by decide +kernel)⟩
theorem g_Mac_62 : zGs "TableMachine$Machine" 62 m_Op_needsOpenCursor 1 := ⟨⟨zWA_of (i := 639) (by decide +kernel) (by decide +kernel), zWA_of (i := 17) (by decide +kernel) (by decide +kernel), ⟨by decide +kernel, by decide +kernel, by decide +kernel⟩, by decide⟩, zWA_of (i := 637) (by decide +kernel) (by decide +kernel), zWA_of (i := 638) (by decide +kernel) (by decide +kernel)⟩
theorem g_Mac_68 : zGv "TableMachine$Machine" 68 m_Mac_useCursor 2 := ⟨⟨zWA_of (i := 643) (by decide +kernel) (by decide +kernel), zWA_of (i := 2) (by decide +kernel) (by decide +kernel), ⟨by decide +kernel, by decide +kernel, by decide +kernel⟩, by decide⟩, zWA_of (i := 640) (by decide +kernel) (by decide +kernel), zWA_of (i := 642) (by decide +kernel) (by decide +kernel), zWA_sel (i := 6) (by decide +kernel) (by decide +kernel)⟩
theorem g_Mac_71 : zGv "TableMachine$Machine" 71 m_Mac_compute 2 := ⟨⟨zWA_of (i := 699) (by decide +kernel) (by decide +kernel), zWA_of (i := 2) (by decide +kernel) (by decide +kernel), ⟨by decide +kernel, by decide +kernel, by decide +kernel⟩, by decide⟩, zWA_of (i := 696) (by decide +kernel) (by decide +kernel), zWA_of (i := 698) (by decide +kernel) (by decide +kernel), zWA_sel (i := 16) (by decide +kernel) (by decide +kernel)⟩
theorem g_Mac_74 : zGv "TableMachine$Machine" 74 m_Val_clearAll 0 := ⟨⟨zWA_of (i := 626) (by decide +kernel) (by decide +kernel), zWA_of (i := 4) (by decide +kernel) (by decide +kernel), ⟨by decide +kernel, by decide +kernel, by decide +kernel⟩, by decide⟩, zWA_of (i := 623) (by decide +kernel) (by decide +kernel), zWA_of (i := 624) (by decide +kernel) (by decide +kernel), zWA_of (i := 625) (by decide +kernel) (by decide +kernel)⟩
theorem g_Mac_77 : zGv "TableMachine$Machine" 77 m_Cur_shut 0 := ⟨⟨zWA_of (i := 631) (by decide +kernel) (by decide +kernel), zWA_of (i := 8) (by decide +kernel) (by decide +kernel), ⟨by decide +kernel, by decide +kernel, by decide +kernel⟩, by decide⟩, zWA_of (i := 628) (by decide +kernel) (by decide +kernel), zWA_of (i := 629) (by decide +kernel) (by decide +kernel), zWA_of (i := 630) (by decide +kernel) (by decide +kernel)⟩
theorem f_Mac_80 : zFd "TableMachine$Machine" 80 7 0 := ⟨_, _, _, rfl, by decide, zu7, zWA_of (i := 126) (by decide +kernel) (by decide +kernel)⟩
theorem g_Val_17 : zGv "TableMachine$Values" 17 m_Val_clear 1 := ⟨⟨zWA_of (i := 267) (by decide +kernel) (by decide +kernel), zWA_of (i := 4) (by decide +kernel) (by decide +kernel), ⟨by decide +kernel, by decide +kernel, by decide +kernel⟩, by decide⟩, zWA_of (i := 627) (by decide +kernel) (by decide +kernel), zWA_of (i := 265) (by decide +kernel) (by decide +kernel), zWA_of (i := 266) (by decide +kernel) (by decide +kernel)⟩
theorem g_Cur_23 : zGv "TableMachine$Cursor" 23 m_Cur_open 1 := ⟨⟨zWA_of (i := 635) (by decide +kernel) (by decide +kernel), zWA_of (i := 8) (by decide +kernel) (by decide +kernel), ⟨by decide +kernel, by decide +kernel, by decide +kernel⟩, by decide⟩, zWA_of (i := 632) (by decide +kernel) (by decide +kernel), zWA_of (i := 633) (by decide +kernel) (by decide +kernel), zWA_of (i := 634) (by decide +kernel) (by decide +kernel)⟩
theorem g_Mac_81 : zGv "TableMachine$Machine" 81 m_Cur_isShut 0 := ⟨⟨zWA_of (i := 647) (by decide +kernel) (by decide +kernel), zWA_of (i := 8) (by decide +kernel) (by decide +kernel), ⟨by decide +kernel, by decide +kernel, by decide +kernel⟩, by decide⟩, zWA_of (i := 644) (by decide +kernel) (by decide +kernel), zWA_of (i := 645) (by decide +kernel) (by decide +kernel), zWA_of (i := 646) (by decide +kernel) (by decide +kernel)⟩
theorem g_Mac_85 : zGv "TableMachine$Machine" 85 m_Mac_end 1 := ⟨⟨zWA_of (i := 651) (by decide +kernel) (by decide +kernel), zWA_of (i := 2) (by decide +kernel) (by decide +kernel), ⟨by decide +kernel, by decide +kernel, by decide +kernel⟩, by decide⟩, zWA_of (i := 648) (by decide +kernel) (by decide +kernel), zWA_of (i := 650) (by decide +kernel) (by decide +kernel), zWA_sel (i := 7) (by decide +kernel) (by decide +kernel)⟩
theorem g_Mac_89 : zGv "TableMachine$Machine" 89 m_Mac_moveTo 2 := ⟨⟨zWA_of (i := 655) (by decide +kernel) (by decide +kernel), zWA_of (i := 2) (by decide +kernel) (by decide +kernel), ⟨by decide +kernel, by decide +kernel, by decide +kernel⟩, by decide⟩, zWA_of (i := 652) (by decide +kernel) (by decide +kernel), zWA_of (i := 654) (by decide +kernel) (by decide +kernel), zWA_sel (i := 8) (by decide +kernel) (by decide +kernel)⟩
theorem g_Mac_93 : zGv "TableMachine$Machine" 93 m_Mac_advance 1 := ⟨⟨zWA_of (i := 661) (by decide +kernel) (by decide +kernel), zWA_of (i := 2) (by decide +kernel) (by decide +kernel), ⟨by decide +kernel, by decide +kernel, by decide +kernel⟩, by decide⟩, zWA_of (i := 658) (by decide +kernel) (by decide +kernel), zWA_of (i := 660) (by decide +kernel) (by decide +kernel), zWA_sel (i := 9) (by decide +kernel) (by decide +kernel)⟩
theorem g_Mac_97 : zGv "TableMachine$Machine" 97 m_Mac_readColumn 3 := ⟨⟨zWA_of (i := 666) (by decide +kernel) (by decide +kernel), zWA_of (i := 2) (by decide +kernel) (by decide +kernel), ⟨by decide +kernel, by decide +kernel, by decide +kernel⟩, by decide⟩, zWA_of (i := 663) (by decide +kernel) (by decide +kernel), zWA_of (i := 665) (by decide +kernel) (by decide +kernel), zWA_sel (i := 10) (by decide +kernel) (by decide +kernel)⟩
theorem g_Mac_101 : zGv "TableMachine$Machine" 101 m_Mac_readKey 2 := ⟨⟨zWA_of (i := 678) (by decide +kernel) (by decide +kernel), zWA_of (i := 2) (by decide +kernel) (by decide +kernel), ⟨by decide +kernel, by decide +kernel, by decide +kernel⟩, by decide⟩, zWA_of (i := 675) (by decide +kernel) (by decide +kernel), zWA_of (i := 677) (by decide +kernel) (by decide +kernel), zWA_sel (i := 12) (by decide +kernel) (by decide +kernel)⟩
theorem g_Mac_105 : zGv "TableMachine$Machine" 105 m_Mac_seek 2 := ⟨⟨zWA_of (i := 683) (by decide +kernel) (by decide +kernel), zWA_of (i := 2) (by decide +kernel) (by decide +kernel), ⟨by decide +kernel, by decide +kernel, by decide +kernel⟩, by decide⟩, zWA_of (i := 680) (by decide +kernel) (by decide +kernel), zWA_of (i := 682) (by decide +kernel) (by decide +kernel), zWA_sel (i := 13) (by decide +kernel) (by decide +kernel)⟩
theorem g_Mac_108 : zGv "TableMachine$Machine" 108 m_Mac_bringRow 2 := ⟨⟨zWA_of (i := 689) (by decide +kernel) (by decide +kernel), zWA_of (i := 2) (by decide +kernel) (by decide +kernel), ⟨by decide +kernel, by decide +kernel, by decide +kernel⟩, by decide⟩, zWA_of (i := 686) (by decide +kernel) (by decide +kernel), zWA_of (i := 688) (by decide +kernel) (by decide +kernel), zWA_sel (i := 14) (by decide +kernel) (by decide +kernel)⟩
theorem g_Mac_111 : zGv "TableMachine$Machine" 111 m_Mac_dropRow 1 := ⟨⟨zWA_of (i := 694) (by decide +kernel) (by decide +kernel), zWA_of (i := 2) (by decide +kernel) (by decide +kernel), ⟨by decide +kernel, by decide +kernel, by decide +kernel⟩, by decide⟩, zWA_of (i := 691) (by decide +kernel) (by decide +kernel), zWA_of (i := 693) (by decide +kernel) (by decide +kernel), zWA_sel (i := 15) (by decide +kernel) (by decide +kernel)⟩
theorem f_Mac_140 : zFd "TableMachine$Machine" 140 5 0 := ⟨_, _, _, rfl, by decide, zu5, zWA_of (i := 149) (by decide +kernel) (by decide +kernel)⟩
theorem g_Mac_143 : zGv "TableMachine$Machine" 143 m_Sto_hasPlace 2 := ⟨⟨zWA_of (i := 490) (by decide +kernel) (by decide +kernel), zWA_of (i := 3) (by decide +kernel) (by decide +kernel), ⟨by decide +kernel, by decide +kernel, by decide +kernel⟩, by decide⟩, zWA_of (i := 656) (by decide +kernel) (by decide +kernel), zWA_of (i := 488) (by decide +kernel) (by decide +kernel), zWA_of (i := 489) (by decide +kernel) (by decide +kernel)⟩
theorem f_Mac_147 : zFd "TableMachine$Machine" 147 5 1 := ⟨_, _, _, rfl, by decide, zu5, zWA_of (i := 151) (by decide +kernel) (by decide +kernel)⟩
theorem g_Mac_151 : zGv "TableMachine$Machine" 151 m_Sto_keyAt 2 := ⟨⟨zWA_of (i := 510) (by decide +kernel) (by decide +kernel), zWA_of (i := 3) (by decide +kernel) (by decide +kernel), ⟨by decide +kernel, by decide +kernel, by decide +kernel⟩, by decide⟩, zWA_of (i := 657) (by decide +kernel) (by decide +kernel), zWA_of (i := 508) (by decide +kernel) (by decide +kernel), zWA_of (i := 509) (by decide +kernel) (by decide +kernel)⟩
theorem f_Mac_155 : zFd "TableMachine$Machine" 155 5 2 := ⟨_, _, _, rfl, by decide, zu5, zWA_of (i := 153) (by decide +kernel) (by decide +kernel)⟩
theorem g_Mac_159 : zGv "TableMachine$Machine" 159 m_Sto_rowsBelow 3 := ⟨⟨zWA_of (i := 449) (by decide +kernel) (by decide +kernel), zWA_of (i := 3) (by decide +kernel) (by decide +kernel), ⟨by decide +kernel, by decide +kernel, by decide +kernel⟩, by decide⟩, zWA_of (i := 662) (by decide +kernel) (by decide +kernel), zWA_of (i := 447) (by decide +kernel) (by decide +kernel), zWA_of (i := 448) (by decide +kernel) (by decide +kernel)⟩
theorem g_Mac_171 : zGv "TableMachine$Machine" 171 m_Mac_slotAt 1 := ⟨⟨zWA_of (i := 670) (by decide +kernel) (by decide +kernel), zWA_of (i := 2) (by decide +kernel) (by decide +kernel), ⟨by decide +kernel, by decide +kernel, by decide +kernel⟩, by decide⟩, zWA_of (i := 667) (by decide +kernel) (by decide +kernel), zWA_of (i := 669) (by decide +kernel) (by decide +kernel), zWA_sel (i := 11) (by decide +kernel) (by decide +kernel)⟩
theorem g_Mac_175 : zGv "TableMachine$Machine" 175 m_Sto_hasColumn 2 := ⟨⟨zWA_of (i := 305) (by decide +kernel) (by decide +kernel), zWA_of (i := 3) (by decide +kernel) (by decide +kernel), ⟨by decide +kernel, by decide +kernel, by decide +kernel⟩, by decide⟩, zWA_of (i := 672) (by decide +kernel) (by decide +kernel), zWA_of (i := 303) (by decide +kernel) (by decide +kernel), zWA_of (i := 304) (by decide +kernel) (by decide +kernel)⟩
theorem g_Mac_122 : zGv "TableMachine$Machine" 122 m_Val_clear 1 := ⟨⟨zWA_of (i := 267) (by decide +kernel) (by decide +kernel), zWA_of (i := 4) (by decide +kernel) (by decide +kernel), ⟨by decide +kernel, by decide +kernel, by decide +kernel⟩, by decide⟩, zWA_of (i := 673) (by decide +kernel) (by decide +kernel), zWA_of (i := 265) (by decide +kernel) (by decide +kernel), zWA_of (i := 266) (by decide +kernel) (by decide +kernel)⟩
theorem f_Mac_178 : zFd "TableMachine$Machine" 178 2 2 := ⟨_, _, _, rfl, by decide, zu2, zWA_of (i := 84) (by decide +kernel) (by decide +kernel)⟩
theorem g_Mac_181 : zGv "TableMachine$Machine" 181 m_Val_copy 3 := ⟨⟨zWA_of (i := 458) (by decide +kernel) (by decide +kernel), zWA_of (i := 4) (by decide +kernel) (by decide +kernel), ⟨by decide +kernel, by decide +kernel, by decide +kernel⟩, by decide⟩, zWA_of (i := 674) (by decide +kernel) (by decide +kernel), zWA_of (i := 456) (by decide +kernel) (by decide +kernel), zWA_of (i := 457) (by decide +kernel) (by decide +kernel)⟩
theorem g_Mac_167 : zGv "TableMachine$Machine" 167 m_Sto_slotOf 2 := ⟨⟨zWA_of (i := 526) (by decide +kernel) (by decide +kernel), zWA_of (i := 3) (by decide +kernel) (by decide +kernel), ⟨by decide +kernel, by decide +kernel, by decide +kernel⟩, by decide⟩, zWA_of (i := 671) (by decide +kernel) (by decide +kernel), zWA_of (i := 524) (by decide +kernel) (by decide +kernel), zWA_of (i := 525) (by decide +kernel) (by decide +kernel)⟩
theorem g_Mac_118 : zGv "TableMachine$Machine" 118 m_Val_put 2 := ⟨⟨zWA_of (i := 263) (by decide +kernel) (by decide +kernel), zWA_of (i := 4) (by decide +kernel) (by decide +kernel), ⟨by decide +kernel, by decide +kernel, by decide +kernel⟩, by decide⟩, zWA_of (i := 679) (by decide +kernel) (by decide +kernel), zWA_of (i := 261) (by decide +kernel) (by decide +kernel), zWA_of (i := 262) (by decide +kernel) (by decide +kernel)⟩
theorem g_Mac_125 : zGv "TableMachine$Machine" 125 m_Val_has 1 := ⟨⟨zWA_of (i := 542) (by decide +kernel) (by decide +kernel), zWA_of (i := 4) (by decide +kernel) (by decide +kernel), ⟨by decide +kernel, by decide +kernel, by decide +kernel⟩, by decide⟩, zWA_of (i := 684) (by decide +kernel) (by decide +kernel), zWA_of (i := 540) (by decide +kernel) (by decide +kernel), zWA_of (i := 541) (by decide +kernel) (by decide +kernel)⟩
theorem g_Mac_163 : zGv "TableMachine$Machine" 163 m_Val_number 1 := ⟨⟨zWA_of (i := 531) (by decide +kernel) (by decide +kernel), zWA_of (i := 4) (by decide +kernel) (by decide +kernel), ⟨by decide +kernel, by decide +kernel, by decide +kernel⟩, by decide⟩, zWA_of (i := 685) (by decide +kernel) (by decide +kernel), zWA_of (i := 529) (by decide +kernel) (by decide +kernel), zWA_of (i := 530) (by decide +kernel) (by decide +kernel)⟩
theorem g_Mac_185 : zGv "TableMachine$Machine" 185 m_Sto_bring 4 := ⟨⟨zWA_of (i := 445) (by decide +kernel) (by decide +kernel), zWA_of (i := 3) (by decide +kernel) (by decide +kernel), ⟨by decide +kernel, by decide +kernel, by decide +kernel⟩, by decide⟩, zWA_of (i := 690) (by decide +kernel) (by decide +kernel), zWA_of (i := 443) (by decide +kernel) (by decide +kernel), zWA_of (i := 444) (by decide +kernel) (by decide +kernel)⟩
theorem g_Mac_189 : zGv "TableMachine$Machine" 189 m_Sto_drop 2 := ⟨⟨zWA_of (i := 473) (by decide +kernel) (by decide +kernel), zWA_of (i := 3) (by decide +kernel) (by decide +kernel), ⟨by decide +kernel, by decide +kernel, by decide +kernel⟩, by decide⟩, zWA_of (i := 695) (by decide +kernel) (by decide +kernel), zWA_of (i := 471) (by decide +kernel) (by decide +kernel), zWA_of (i := 472) (by decide +kernel) (by decide +kernel)⟩
theorem g_Mac_115 : zGv "TableMachine$Machine" 115 m_Cur_open 1 := ⟨⟨zWA_of (i := 635) (by decide +kernel) (by decide +kernel), zWA_of (i := 8) (by decide +kernel) (by decide +kernel), ⟨by decide +kernel, by decide +kernel, by decide +kernel⟩, by decide⟩, zWA_of (i := 700) (by decide +kernel) (by decide +kernel), zWA_of (i := 633) (by decide +kernel) (by decide +kernel), zWA_of (i := 634) (by decide +kernel) (by decide +kernel)⟩
theorem g_Mac_128 : zGv "TableMachine$Machine" 128 m_Mac_sum 3 := ⟨⟨zWA_of (i := 704) (by decide +kernel) (by decide +kernel), zWA_of (i := 2) (by decide +kernel) (by decide +kernel), ⟨by decide +kernel, by decide +kernel, by decide +kernel⟩, by decide⟩, zWA_of (i := 701) (by decide +kernel) (by decide +kernel), zWA_of (i := 703) (by decide +kernel) (by decide +kernel), zWA_sel (i := 17) (by decide +kernel) (by decide +kernel)⟩
theorem g_Mac_132 : zGv "TableMachine$Machine" 132 m_Res_take 3 := ⟨⟨zWA_of (i := 708) (by decide +kernel) (by decide +kernel), zWA_of (i := 7) (by decide +kernel) (by decide +kernel), ⟨by decide +kernel, by decide +kernel, by decide +kernel⟩, by decide⟩, zWA_of (i := 705) (by decide +kernel) (by decide +kernel), zWA_of (i := 706) (by decide +kernel) (by decide +kernel), zWA_of (i := 707) (by decide +kernel) (by decide +kernel)⟩
theorem g_Mac_136 : zGv "TableMachine$Machine" 136 m_Mac_holds 3 := ⟨⟨zWA_of (i := 713) (by decide +kernel) (by decide +kernel), zWA_of (i := 2) (by decide +kernel) (by decide +kernel), ⟨by decide +kernel, by decide +kernel, by decide +kernel⟩, by decide⟩, zWA_of (i := 710) (by decide +kernel) (by decide +kernel), zWA_of (i := 712) (by decide +kernel) (by decide +kernel), zWA_sel (i := 18) (by decide +kernel) (by decide +kernel)⟩
theorem g_Res_32 : zGv "TableMachine$Results" 32 m_Val_copy 3 := ⟨⟨zWA_of (i := 458) (by decide +kernel) (by decide +kernel), zWA_of (i := 4) (by decide +kernel) (by decide +kernel), ⟨by decide +kernel, by decide +kernel, by decide +kernel⟩, by decide⟩, zWA_of (i := 709) (by decide +kernel) (by decide +kernel), zWA_of (i := 456) (by decide +kernel) (by decide +kernel), zWA_of (i := 457) (by decide +kernel) (by decide +kernel)⟩
theorem g_Mac_193 : zGs "TableMachine$Machine" 193 m_Lng_compare 2 := ⟨⟨zWA_of (i := 716) (by decide +kernel) (by decide +kernel), zWA_of (i := 20) (by decide +kernel) (by decide +kernel), ⟨by decide +kernel, by decide +kernel, by decide +kernel⟩, by decide⟩, zWA_of (i := 714) (by decide +kernel) (by decide +kernel), zWA_of (i := 715) (by decide +kernel) (by decide +kernel)⟩
theorem f_TM_180 : zFd "TableMachine" 180 7 0 := ⟨_, _, _, rfl, by decide, zu7, zWA_of (i := 127) (by decide +kernel) (by decide +kernel)⟩
theorem g_TM_183 : zGv "TableMachine" 183 m_Res_hasRow 1 := ⟨⟨zWA_of (i := 727) (by decide +kernel) (by decide +kernel), zWA_of (i := 7) (by decide +kernel) (by decide +kernel), ⟨by decide +kernel, by decide +kernel, by decide +kernel⟩, by decide⟩, zWA_of (i := 724) (by decide +kernel) (by decide +kernel), zWA_of (i := 725) (by decide +kernel) (by decide +kernel), zWA_of (i := 726) (by decide +kernel) (by decide +kernel)⟩
theorem f_TM_186 : zFd "TableMachine" 186 7 1 := ⟨_, _, _, rfl, by decide, zu7, zWA_of (i := 129) (by decide +kernel) (by decide +kernel)⟩
theorem f_TM_190 : zFd "TableMachine" 190 7 2 := ⟨_, _, _, rfl, by decide, zu7, zWA_of (i := 131) (by decide +kernel) (by decide +kernel)⟩
theorem g_TM_191 : zGv "TableMachine" 191 m_TM_requireResult 2 := ⟨⟨zWA_of (i := 732) (by decide +kernel) (by decide +kernel), zWA_of (i := 1) (by decide +kernel) (by decide +kernel), ⟨by decide +kernel, by decide +kernel, by decide +kernel⟩, by decide⟩, zWA_of (i := 729) (by decide +kernel) (by decide +kernel), zWA_of (i := 731) (by decide +kernel) (by decide +kernel), zWA_sel (i := 19) (by decide +kernel) (by decide +kernel)⟩
theorem g_Res_28 : zGn "TableMachine$Results" 28 m_TM_isIndex 2 := ⟨⟨zWA_of (i := 259) (by decide +kernel) (by decide +kernel), zWA_of (i := 1) (by decide +kernel) (by decide +kernel), ⟨by decide +kernel, by decide +kernel, by decide +kernel⟩, by decide⟩, by decide +kernel, zWA_of (i := 258) (by decide +kernel) (by decide +kernel)⟩
theorem g_TM_217 : zGv "TableMachine" 217 m_Que_writeTo 2 := ⟨⟨zWA_of (i := 752) (by decide +kernel) (by decide +kernel), zWA_of (i := 9) (by decide +kernel) (by decide +kernel), ⟨by decide +kernel, by decide +kernel, by decide +kernel⟩, by decide⟩, zWA_of (i := 749) (by decide +kernel) (by decide +kernel), zWA_of (i := 750) (by decide +kernel) (by decide +kernel), zWA_of (i := 751) (by decide +kernel) (by decide +kernel)⟩
theorem f_Que_57 : zFd "TableMachine$Question" 57 6 0 := ⟨_, _, _, rfl, by decide, zu6, zWA_of (i := 109) (by decide +kernel) (by decide +kernel)⟩
theorem g_Que_64 : zGv "TableMachine$Question" 64 m_Pro_append 4 := ⟨⟨zWA_of (i := 571) (by decide +kernel) (by decide +kernel), zWA_of (i := 6) (by decide +kernel) (by decide +kernel), ⟨by decide +kernel, by decide +kernel, by decide +kernel⟩, by decide⟩, zWA_of (i := 753) (by decide +kernel) (by decide +kernel), zWA_of (i := 569) (by decide +kernel) (by decide +kernel), zWA_of (i := 570) (by decide +kernel) (by decide +kernel)⟩
theorem g_Que_68 : zGv "TableMachine$Question" 68 m_Que_writeStart 3 := ⟨⟨zWA_of (i := 757) (by decide +kernel) (by decide +kernel), zWA_of (i := 9) (by decide +kernel) (by decide +kernel), ⟨by decide +kernel, by decide +kernel, by decide +kernel⟩, by decide⟩, zWA_of (i := 754) (by decide +kernel) (by decide +kernel), zWA_of (i := 756) (by decide +kernel) (by decide +kernel), zWA_sel (i := 20) (by decide +kernel) (by decide +kernel)⟩
theorem g_Que_72 : zGv "TableMachine$Question" 72 m_Que_writeConditions 3 := ⟨⟨zWA_of (i := 768) (by decide +kernel) (by decide +kernel), zWA_of (i := 9) (by decide +kernel) (by decide +kernel), ⟨by decide +kernel, by decide +kernel, by decide +kernel⟩, by decide⟩, zWA_of (i := 765) (by decide +kernel) (by decide +kernel), zWA_of (i := 767) (by decide +kernel) (by decide +kernel), zWA_sel (i := 22) (by decide +kernel) (by decide +kernel)⟩
theorem g_Que_75 : zGv "TableMachine$Question" 75 m_Que_writeInnerLoop 2 := ⟨⟨zWA_of (i := 784) (by decide +kernel) (by decide +kernel), zWA_of (i := 9) (by decide +kernel) (by decide +kernel), ⟨by decide +kernel, by decide +kernel, by decide +kernel⟩, by decide⟩, zWA_of (i := 781) (by decide +kernel) (by decide +kernel), zWA_of (i := 783) (by decide +kernel) (by decide +kernel), zWA_sel (i := 26) (by decide +kernel) (by decide +kernel)⟩
theorem g_Que_79 : zGv "TableMachine$Question" 79 m_Que_writeOutputs 1 := ⟨⟨zWA_of (i := 792) (by decide +kernel) (by decide +kernel), zWA_of (i := 9) (by decide +kernel) (by decide +kernel), ⟨by decide +kernel, by decide +kernel, by decide +kernel⟩, by decide⟩, zWA_of (i := 789) (by decide +kernel) (by decide +kernel), zWA_of (i := 791) (by decide +kernel) (by decide +kernel), zWA_sel (i := 28) (by decide +kernel) (by decide +kernel)⟩
theorem g_Que_86 : zGv "TableMachine$Question" 86 m_Que_seekable 1 := ⟨⟨zWA_of (i := 761) (by decide +kernel) (by decide +kernel), zWA_of (i := 9) (by decide +kernel) (by decide +kernel), ⟨by decide +kernel, by decide +kernel, by decide +kernel⟩, by decide⟩, zWA_of (i := 758) (by decide +kernel) (by decide +kernel), zWA_of (i := 760) (by decide +kernel) (by decide +kernel), zWA_sel (i := 21) (by decide +kernel) (by decide +kernel)⟩
theorem g_Que_90 : zGs "TableMachine$Question" 90 m_Que_isFromBelow 1 := ⟨⟨zWA_of (i := 764) (by decide +kernel) (by decide +kernel), zWA_of (i := 9) (by decide +kernel) (by decide +kernel), ⟨by decide +kernel, by decide +kernel, by decide +kernel⟩, by decide⟩, zWA_of (i := 762) (by decide +kernel) (by decide +kernel), zWA_of (i := 763) (by decide +kernel) (by decide +kernel)⟩
theorem g_Que_94 : zGv "TableMachine$Question" 94 m_Que_writeCondition 3 := ⟨⟨zWA_of (i := 772) (by decide +kernel) (by decide +kernel), zWA_of (i := 9) (by decide +kernel) (by decide +kernel), ⟨by decide +kernel, by decide +kernel, by decide +kernel⟩, by decide⟩, zWA_of (i := 769) (by decide +kernel) (by decide +kernel), zWA_of (i := 771) (by decide +kernel) (by decide +kernel), zWA_sel (i := 23) (by decide +kernel) (by decide +kernel)⟩
theorem g_Que_97 : zGv "TableMachine$Question" 97 m_Que_writeColumn 4 := ⟨⟨zWA_of (i := 776) (by decide +kernel) (by decide +kernel), zWA_of (i := 9) (by decide +kernel) (by decide +kernel), ⟨by decide +kernel, by decide +kernel, by decide +kernel⟩, by decide⟩, zWA_of (i := 773) (by decide +kernel) (by decide +kernel), zWA_of (i := 775) (by decide +kernel) (by decide +kernel), zWA_sel (i := 24) (by decide +kernel) (by decide +kernel)⟩
theorem g_Que_101 : zGv "TableMachine$Question" 101 m_Que_writeTest 4 := ⟨⟨zWA_of (i := 780) (by decide +kernel) (by decide +kernel), zWA_of (i := 9) (by decide +kernel) (by decide +kernel), ⟨by decide +kernel, by decide +kernel, by decide +kernel⟩, by decide⟩, zWA_of (i := 777) (by decide +kernel) (by decide +kernel), zWA_of (i := 779) (by decide +kernel) (by decide +kernel), zWA_sel (i := 25) (by decide +kernel) (by decide +kernel)⟩
theorem g_Que_83 : zGv "TableMachine$Question" 83 m_Que_writeJoin 2 := ⟨⟨zWA_of (i := 788) (by decide +kernel) (by decide +kernel), zWA_of (i := 9) (by decide +kernel) (by decide +kernel), ⟨by decide +kernel, by decide +kernel, by decide +kernel⟩, by decide⟩, zWA_of (i := 785) (by decide +kernel) (by decide +kernel), zWA_of (i := 787) (by decide +kernel) (by decide +kernel), zWA_sel (i := 27) (by decide +kernel) (by decide +kernel)⟩
theorem f_Mod_7 : zFd "TableMachineModel" 7 9 2 := ⟨_, _, _, rfl, by decide, zu9, zWA_of (i := 801) (by decide +kernel) (by decide +kernel)⟩
theorem p_9_2 : zFp 9 2 (.array .int) true := fun _ _ _ h => by cases h; exact ⟨zt9, zk9, zn9, rfl, by decide +kernel⟩
theorem f_Mod_13 : zFd "TableMachineModel" 13 9 4 := ⟨_, _, _, rfl, by decide, zu9, zWA_of (i := 803) (by decide +kernel) (by decide +kernel)⟩
theorem p_9_4 : zFp 9 4 (.array .int) true := fun _ _ _ h => by cases h; exact ⟨zt9, zk9, zn9, rfl, by decide +kernel⟩
theorem f_Mod_16 : zFd "TableMachineModel" 16 9 5 := ⟨_, _, _, rfl, by decide, zu9, zWA_of (i := 804) (by decide +kernel) (by decide +kernel)⟩
theorem p_9_5 : zFp 9 5 (.array .long) true := fun _ _ _ h => by cases h; exact ⟨zt9, zk9, zn9, rfl, by decide +kernel⟩
theorem f_Mod_20 : zFd "TableMachineModel" 20 9 6 := ⟨_, _, _, rfl, by decide, zu9, zWA_of (i := 805) (by decide +kernel) (by decide +kernel)⟩
theorem p_9_6 : zFp 9 6 (.array .long) true := fun _ _ _ h => by cases h; exact ⟨zt9, zk9, zn9, rfl, by decide +kernel⟩
theorem f_Mod_23 : zFd "TableMachineModel" 23 9 7 := ⟨_, _, _, rfl, by decide, zu9, zWA_of (i := 806) (by decide +kernel) (by decide +kernel)⟩
theorem p_9_7 : zFp 9 7 (.array .boolean) true := fun _ _ _ h => by cases h; exact ⟨zt9, zk9, zn9, rfl, by decide +kernel⟩
theorem f_Mod_27 : zFd "TableMachineModel" 27 9 8 := ⟨_, _, _, rfl, by decide, zu9, zWA_of (i := 807) (by decide +kernel) (by decide +kernel)⟩
theorem p_9_8 : zFp 9 8 (.array .long) true := fun _ _ _ h => by cases h; exact ⟨zt9, zk9, zn9, rfl, by decide +kernel⟩
theorem f_Mod_30 : zFd "TableMachineModel" 30 9 9 := ⟨_, _, _, rfl, by decide, zu9, zWA_of (i := 808) (by decide +kernel) (by decide +kernel)⟩
theorem p_9_9 : zFp 9 9 (.array .boolean) true := fun _ _ _ h => by cases h; exact ⟨zt9, zk9, zn9, rfl, by decide +kernel⟩
theorem f_Mod_33 : zFd "TableMachineModel" 33 9 11 := ⟨_, _, _, rfl, by decide, zu9, zWA_of (i := 810) (by decide +kernel) (by decide +kernel)⟩
theorem p_9_11 : zFp 9 11 (.array .int) true := fun _ _ _ h => by cases h; exact ⟨zt9, zk9, zn9, rfl, by decide +kernel⟩
theorem f_Mod_36 : zFd "TableMachineModel" 36 9 12 := ⟨_, _, _, rfl, by decide, zu9, zWA_of (i := 811) (by decide +kernel) (by decide +kernel)⟩
theorem p_9_12 : zFp 9 12 (.array .long) true := fun _ _ _ h => by cases h; exact ⟨zt9, zk9, zn9, rfl, by decide +kernel⟩
theorem f_Mod_39 : zFd "TableMachineModel" 39 9 13 := ⟨_, _, _, rfl, by decide, zu9, zWA_of (i := 812) (by decide +kernel) (by decide +kernel)⟩
theorem p_9_13 : zFp 9 13 (.array .boolean) true := fun _ _ _ h => by cases h; exact ⟨zt9, zk9, zn9, rfl, by decide +kernel⟩
theorem f_Mod_42 : zFd "TableMachineModel" 42 9 14 := ⟨_, _, _, rfl, by decide, zu9, zWA_of (i := 813) (by decide +kernel) (by decide +kernel)⟩
theorem p_9_14 : zFp 9 14 (.array .int) true := fun _ _ _ h => by cases h; exact ⟨zt9, zk9, zn9, rfl, by decide +kernel⟩
theorem f_Mod_45 : zFd "TableMachineModel" 45 9 15 := ⟨_, _, _, rfl, by decide, zu9, zWA_of (i := 814) (by decide +kernel) (by decide +kernel)⟩
theorem p_9_15 : zFp 9 15 (.array .boolean) true := fun _ _ _ h => by cases h; exact ⟨zt9, zk9, zn9, rfl, by decide +kernel⟩
theorem f_Mod_48 : zFd "TableMachineModel" 48 9 16 := ⟨_, _, _, rfl, by decide, zu9, zWA_of (i := 815) (by decide +kernel) (by decide +kernel)⟩
theorem p_9_16 : zFp 9 16 (.array .long) true := fun _ _ _ h => by cases h; exact ⟨zt9, zk9, zn9, rfl, by decide +kernel⟩
theorem f_Mod_51 : zFd "TableMachineModel" 51 9 20 := ⟨_, _, _, rfl, by decide, zu9, zWA_of (i := 819) (by decide +kernel) (by decide +kernel)⟩
theorem p_9_20 : zFp 9 20 (.array .int) true := fun _ _ _ h => by cases h; exact ⟨zt9, zk9, zn9, rfl, by decide +kernel⟩
theorem f_Mod_54 : zFd "TableMachineModel" 54 9 21 := ⟨_, _, _, rfl, by decide, zu9, zWA_of (i := 820) (by decide +kernel) (by decide +kernel)⟩
theorem p_9_21 : zFp 9 21 (.array .long) true := fun _ _ _ h => by cases h; exact ⟨zt9, zk9, zn9, rfl, by decide +kernel⟩
theorem f_Mod_57 : zFd "TableMachineModel" 57 9 22 := ⟨_, _, _, rfl, by decide, zu9, zWA_of (i := 821) (by decide +kernel) (by decide +kernel)⟩
theorem p_9_22 : zFp 9 22 (.array .boolean) true := fun _ _ _ h => by cases h; exact ⟨zt9, zk9, zn9, rfl, by decide +kernel⟩
theorem f_Mod_60 : zFd "TableMachineModel" 60 9 23 := ⟨_, _, _, rfl, by decide, zu9, zWA_of (i := 822) (by decide +kernel) (by decide +kernel)⟩
theorem p_9_23 : zFp 9 23 (.int) false := fun _ _ _ h => by cases h; exact ⟨zt9, zk9, zn9, rfl, by decide +kernel⟩
theorem f_Mod_64 : zFd "TableMachineModel" 64 9 24 := ⟨_, _, _, rfl, by decide, zu9, zWA_of (i := 823) (by decide +kernel) (by decide +kernel)⟩
theorem p_9_24 : zFp 9 24 (.int) false := fun _ _ _ h => by cases h; exact ⟨zt9, zk9, zn9, rfl, by decide +kernel⟩
theorem f_Mod_67 : zFd "TableMachineModel" 67 9 26 := ⟨_, _, _, rfl, by decide, zu9, zWA_of (i := 825) (by decide +kernel) (by decide +kernel)⟩
theorem p_9_26 : zFp 9 26 (.array .int) true := fun _ _ _ h => by cases h; exact ⟨zt9, zk9, zn9, rfl, by decide +kernel⟩
theorem f_Mod_70 : zFd "TableMachineModel" 70 9 28 := ⟨_, _, _, rfl, by decide, zu9, zWA_of (i := 827) (by decide +kernel) (by decide +kernel)⟩
theorem p_9_28 : zFp 9 28 (.array .int) true := fun _ _ _ h => by cases h; exact ⟨zt9, zk9, zn9, rfl, by decide +kernel⟩
theorem f_Mod_73 : zFd "TableMachineModel" 73 9 0 := ⟨_, _, _, rfl, by decide, zu9, zWA_of (i := 799) (by decide +kernel) (by decide +kernel)⟩
theorem f_Mod_76 : zFd "TableMachineModel" 76 9 1 := ⟨_, _, _, rfl, by decide, zu9, zWA_of (i := 800) (by decide +kernel) (by decide +kernel)⟩
theorem p_9_0 : zFp 9 0 (.int) false := fun _ _ _ h => by cases h; exact ⟨zt9, zk9, zn9, rfl, by decide +kernel⟩
theorem p_9_1 : zFp 9 1 (.int) false := fun _ _ _ h => by cases h; exact ⟨zt9, zk9, zn9, rfl, by decide +kernel⟩
theorem g_Mod_82 : zGv "TableMachineModel" 82 m_Mod_isTable 1 := ⟨⟨zWA_of (i := 915) (by decide +kernel) (by decide +kernel), zWA_of (i := 10) (by decide +kernel) (by decide +kernel), ⟨by decide +kernel, by decide +kernel, by decide +kernel⟩, by decide⟩, zWA_of (i := 912) (by decide +kernel) (by decide +kernel), zWA_of (i := 914) (by decide +kernel) (by decide +kernel), zWA_sel (i := 29) (by decide +kernel) (by decide +kernel)⟩
theorem f_Mod_79 : zFd "TableMachineModel" 79 9 3 := ⟨_, _, _, rfl, by decide, zu9, zWA_of (i := 802) (by decide +kernel) (by decide +kernel)⟩
theorem g_Mod_86 : zGv "TableMachineModel" 86 m_Mod_rowOf 2 := ⟨⟨zWA_of (i := 919) (by decide +kernel) (by decide +kernel), zWA_of (i := 10) (by decide +kernel) (by decide +kernel), ⟨by decide +kernel, by decide +kernel, by decide +kernel⟩, by decide⟩, zWA_of (i := 916) (by decide +kernel) (by decide +kernel), zWA_of (i := 918) (by decide +kernel) (by decide +kernel), zWA_sel (i := 30) (by decide +kernel) (by decide +kernel)⟩
theorem g_Mod_90 : zGv "TableMachineModel" 90 m_Mod_lay 5 := ⟨⟨zWA_of (i := 923) (by decide +kernel) (by decide +kernel), zWA_of (i := 10) (by decide +kernel) (by decide +kernel), ⟨by decide +kernel, by decide +kernel, by decide +kernel⟩, by decide⟩, zWA_of (i := 920) (by decide +kernel) (by decide +kernel), zWA_of (i := 922) (by decide +kernel) (by decide +kernel), zWA_sel (i := 31) (by decide +kernel) (by decide +kernel)⟩
theorem p_9_3 : zFp 9 3 (.int) false := fun _ _ _ h => by cases h; exact ⟨zt9, zk9, zn9, rfl, by decide +kernel⟩
theorem g_Mod_94 : zGv "TableMachineModel" 94 m_Mod_take 1 := ⟨⟨zWA_of (i := 931) (by decide +kernel) (by decide +kernel), zWA_of (i := 10) (by decide +kernel) (by decide +kernel), ⟨by decide +kernel, by decide +kernel, by decide +kernel⟩, by decide⟩, zWA_of (i := 928) (by decide +kernel) (by decide +kernel), zWA_of (i := 930) (by decide +kernel) (by decide +kernel), zWA_sel (i := 32) (by decide +kernel) (by decide +kernel)⟩
theorem g_Mod_98 : zGv "TableMachineModel" 98 m_Mod_rowFrom 3 := ⟨⟨zWA_of (i := 943) (by decide +kernel) (by decide +kernel), zWA_of (i := 10) (by decide +kernel) (by decide +kernel), ⟨by decide +kernel, by decide +kernel, by decide +kernel⟩, by decide⟩, zWA_of (i := 940) (by decide +kernel) (by decide +kernel), zWA_of (i := 942) (by decide +kernel) (by decide +kernel), zWA_sel (i := 33) (by decide +kernel) (by decide +kernel)⟩
theorem g_Mod_102 : zGv "TableMachineModel" 102 m_Mod_asked 3 := ⟨⟨zWA_of (i := 951) (by decide +kernel) (by decide +kernel), zWA_of (i := 10) (by decide +kernel) (by decide +kernel), ⟨by decide +kernel, by decide +kernel, by decide +kernel⟩, by decide⟩, zWA_of (i := 948) (by decide +kernel) (by decide +kernel), zWA_of (i := 950) (by decide +kernel) (by decide +kernel), zWA_sel (i := 34) (by decide +kernel) (by decide +kernel)⟩
theorem g_Mod_117 : zGs "TableMachineModel" 117 m_Mod_fits 4 := ⟨⟨zWA_of (i := 962) (by decide +kernel) (by decide +kernel), zWA_of (i := 10) (by decide +kernel) (by decide +kernel), ⟨by decide +kernel, by decide +kernel, by decide +kernel⟩, by decide⟩, zWA_of (i := 960) (by decide +kernel) (by decide +kernel), zWA_of (i := 961) (by decide +kernel) (by decide +kernel)⟩
theorem f_Mod_110 : zFd "TableMachineModel" 110 9 10 := ⟨_, _, _, rfl, by decide, zu9, zWA_of (i := 809) (by decide +kernel) (by decide +kernel)⟩
theorem g_Mod_121 : zGv "TableMachineModel" 121 m_Mod_put 4 := ⟨⟨zWA_of (i := 969) (by decide +kernel) (by decide +kernel), zWA_of (i := 10) (by decide +kernel) (by decide +kernel), ⟨by decide +kernel, by decide +kernel, by decide +kernel⟩, by decide⟩, zWA_of (i := 966) (by decide +kernel) (by decide +kernel), zWA_of (i := 968) (by decide +kernel) (by decide +kernel), zWA_sel (i := 35) (by decide +kernel) (by decide +kernel)⟩
theorem g_Mod_106 : zGs "TableMachineModel" 106 m_Mod_in 2 := ⟨⟨zWA_of (i := 965) (by decide +kernel) (by decide +kernel), zWA_of (i := 10) (by decide +kernel) (by decide +kernel), ⟨by decide +kernel, by decide +kernel, by decide +kernel⟩, by decide⟩, zWA_of (i := 963) (by decide +kernel) (by decide +kernel), zWA_of (i := 964) (by decide +kernel) (by decide +kernel)⟩
theorem g_Mod_113 : zGs "TableMachineModel" 113 m_Mod_many 1 := ⟨⟨zWA_of (i := 972) (by decide +kernel) (by decide +kernel), zWA_of (i := 10) (by decide +kernel) (by decide +kernel), ⟨by decide +kernel, by decide +kernel, by decide +kernel⟩, by decide⟩, zWA_of (i := 970) (by decide +kernel) (by decide +kernel), zWA_of (i := 971) (by decide +kernel) (by decide +kernel)⟩
theorem p_9_10 : zFp 9 10 (.int) false := fun _ _ _ h => by cases h; exact ⟨zt9, zk9, zn9, rfl, by decide +kernel⟩
theorem g_Mod_164 : zGv "TableMachineModel" 164 m_Mod_sound 0 := ⟨⟨zWA_of (i := 988) (by decide +kernel) (by decide +kernel), zWA_of (i := 10) (by decide +kernel) (by decide +kernel), ⟨by decide +kernel, by decide +kernel, by decide +kernel⟩, by decide⟩, zWA_of (i := 985) (by decide +kernel) (by decide +kernel), zWA_of (i := 987) (by decide +kernel) (by decide +kernel), zWA_sel (i := 36) (by decide +kernel) (by decide +kernel)⟩
theorem g_Mod_138 : zGv "TableMachineModel" 138 m_Mod_keep 3 := ⟨⟨zWA_of (i := 995) (by decide +kernel) (by decide +kernel), zWA_of (i := 10) (by decide +kernel) (by decide +kernel), ⟨by decide +kernel, by decide +kernel, by decide +kernel⟩, by decide⟩, zWA_of (i := 992) (by decide +kernel) (by decide +kernel), zWA_of (i := 994) (by decide +kernel) (by decide +kernel), zWA_sel (i := 37) (by decide +kernel) (by decide +kernel)⟩
theorem f_Mod_142 : zFd "TableMachineModel" 142 9 19 := ⟨_, _, _, rfl, by decide, zu9, zWA_of (i := 818) (by decide +kernel) (by decide +kernel)⟩
theorem p_9_19 : zFp 9 19 (.int) false := fun _ _ _ h => by cases h; exact ⟨zt9, zk9, zn9, rfl, by decide +kernel⟩
theorem f_Mod_155 : zFd "TableMachineModel" 155 9 17 := ⟨_, _, _, rfl, by decide, zu9, zWA_of (i := 816) (by decide +kernel) (by decide +kernel)⟩
theorem p_9_17 : zFp 9 17 (.int) false := fun _ _ _ h => by cases h; exact ⟨zt9, zk9, zn9, rfl, by decide +kernel⟩
theorem f_Mod_149 : zFd "TableMachineModel" 149 9 18 := ⟨_, _, _, rfl, by decide, zu9, zWA_of (i := 817) (by decide +kernel) (by decide +kernel)⟩
theorem p_9_18 : zFp 9 18 (.int) false := fun _ _ _ h => by cases h; exact ⟨zt9, zk9, zn9, rfl, by decide +kernel⟩
theorem g_Mod_168 : zGv "TableMachineModel" 168 m_Mod_step 0 := ⟨⟨zWA_of (i := 999) (by decide +kernel) (by decide +kernel), zWA_of (i := 10) (by decide +kernel) (by decide +kernel), ⟨by decide +kernel, by decide +kernel, by decide +kernel⟩, by decide⟩, zWA_of (i := 996) (by decide +kernel) (by decide +kernel), zWA_of (i := 998) (by decide +kernel) (by decide +kernel), zWA_sel (i := 38) (by decide +kernel) (by decide +kernel)⟩
theorem g_Mod_125 : zGs "TableMachineModel" 125 m_Mod_goal 1 := ⟨⟨zWA_of (i := 991) (by decide +kernel) (by decide +kernel), zWA_of (i := 10) (by decide +kernel) (by decide +kernel), ⟨by decide +kernel, by decide +kernel, by decide +kernel⟩, by decide⟩, zWA_of (i := 989) (by decide +kernel) (by decide +kernel), zWA_of (i := 990) (by decide +kernel) (by decide +kernel)⟩
theorem g_Mod_152 : zGs "TableMachineModel" 152 m_Mod_needsOpen 1 := ⟨⟨zWA_of (i := 1002) (by decide +kernel) (by decide +kernel), zWA_of (i := 10) (by decide +kernel) (by decide +kernel), ⟨by decide +kernel, by decide +kernel, by decide +kernel⟩, by decide⟩, zWA_of (i := 1000) (by decide +kernel) (by decide +kernel), zWA_of (i := 1001) (by decide +kernel) (by decide +kernel)⟩
theorem g_Mod_158 : zGv "TableMachineModel" 158 m_Mod_withCursor 4 := ⟨⟨zWA_of (i := 1006) (by decide +kernel) (by decide +kernel), zWA_of (i := 10) (by decide +kernel) (by decide +kernel), ⟨by decide +kernel, by decide +kernel, by decide +kernel⟩, by decide⟩, zWA_of (i := 1003) (by decide +kernel) (by decide +kernel), zWA_of (i := 1005) (by decide +kernel) (by decide +kernel), zWA_sel (i := 39) (by decide +kernel) (by decide +kernel)⟩
theorem g_Mod_161 : zGv "TableMachineModel" 161 m_Mod_without 4 := ⟨⟨zWA_of (i := 1022) (by decide +kernel) (by decide +kernel), zWA_of (i := 10) (by decide +kernel) (by decide +kernel), ⟨by decide +kernel, by decide +kernel, by decide +kernel⟩, by decide⟩, zWA_of (i := 1019) (by decide +kernel) (by decide +kernel), zWA_of (i := 1021) (by decide +kernel) (by decide +kernel), zWA_sel (i := 43) (by decide +kernel) (by decide +kernel)⟩
theorem g_Mod_128 : zGv "TableMachineModel" 128 m_Mod_firstRow 1 := ⟨⟨zWA_of (i := 1010) (by decide +kernel) (by decide +kernel), zWA_of (i := 10) (by decide +kernel) (by decide +kernel), ⟨by decide +kernel, by decide +kernel, by decide +kernel⟩, by decide⟩, zWA_of (i := 1007) (by decide +kernel) (by decide +kernel), zWA_of (i := 1009) (by decide +kernel) (by decide +kernel), zWA_sel (i := 40) (by decide +kernel) (by decide +kernel)⟩
theorem g_Mod_131 : zGv "TableMachineModel" 131 m_Mod_point 2 := ⟨⟨zWA_of (i := 1014) (by decide +kernel) (by decide +kernel), zWA_of (i := 10) (by decide +kernel) (by decide +kernel), ⟨by decide +kernel, by decide +kernel, by decide +kernel⟩, by decide⟩, zWA_of (i := 1011) (by decide +kernel) (by decide +kernel), zWA_of (i := 1013) (by decide +kernel) (by decide +kernel), zWA_sel (i := 41) (by decide +kernel) (by decide +kernel)⟩
theorem g_Mod_135 : zGv "TableMachineModel" 135 m_Mod_rowAt 1 := ⟨⟨zWA_of (i := 1018) (by decide +kernel) (by decide +kernel), zWA_of (i := 10) (by decide +kernel) (by decide +kernel), ⟨by decide +kernel, by decide +kernel, by decide +kernel⟩, by decide⟩, zWA_of (i := 1015) (by decide +kernel) (by decide +kernel), zWA_of (i := 1017) (by decide +kernel) (by decide +kernel), zWA_sel (i := 42) (by decide +kernel) (by decide +kernel)⟩
theorem g_Mod_145 : zGv "TableMachineModel" 145 m_Mod_compares 3 := ⟨⟨zWA_of (i := 1026) (by decide +kernel) (by decide +kernel), zWA_of (i := 10) (by decide +kernel) (by decide +kernel), ⟨by decide +kernel, by decide +kernel, by decide +kernel⟩, by decide⟩, zWA_of (i := 1023) (by decide +kernel) (by decide +kernel), zWA_of (i := 1025) (by decide +kernel) (by decide +kernel), zWA_sel (i := 44) (by decide +kernel) (by decide +kernel)⟩
theorem f_Mod_171 : zFd "TableMachineModel" 171 9 25 := ⟨_, _, _, rfl, by decide, zu9, zWA_of (i := 824) (by decide +kernel) (by decide +kernel)⟩
theorem p_9_25 : zFp 9 25 (.int) false := fun _ _ _ h => by cases h; exact ⟨zt9, zk9, zn9, rfl, by decide +kernel⟩
theorem f_Mod_174 : zFd "TableMachineModel" 174 9 27 := ⟨_, _, _, rfl, by decide, zu9, zWA_of (i := 826) (by decide +kernel) (by decide +kernel)⟩
theorem p_9_27 : zFp 9 27 (.int) false := fun _ _ _ h => by cases h; exact ⟨zt9, zk9, zn9, rfl, by decide +kernel⟩
theorem f_Mod_177 : zFd "TableMachineModel" 177 9 29 := ⟨_, _, _, rfl, by decide, zu9, zWA_of (i := 828) (by decide +kernel) (by decide +kernel)⟩
theorem p_9_29 : zFp 9 29 (.boolean) false := fun _ _ _ h => by cases h; exact ⟨zt9, zk9, zn9, rfl, by decide +kernel⟩
theorem g_Mod_184 : zGv "TableMachineModel" 184 m_Mod_isColumn 2 := ⟨⟨zWA_of (i := 1046) (by decide +kernel) (by decide +kernel), zWA_of (i := 10) (by decide +kernel) (by decide +kernel), ⟨by decide +kernel, by decide +kernel, by decide +kernel⟩, by decide⟩, zWA_of (i := 1043) (by decide +kernel) (by decide +kernel), zWA_of (i := 1045) (by decide +kernel) (by decide +kernel), zWA_sel (i := 45) (by decide +kernel) (by decide +kernel)⟩
theorem g_Mod_181 : zGv "TableMachineModel" 181 m_Mod_tableOf 1 := ⟨⟨zWA_of (i := 1050) (by decide +kernel) (by decide +kernel), zWA_of (i := 10) (by decide +kernel) (by decide +kernel), ⟨by decide +kernel, by decide +kernel, by decide +kernel⟩, by decide⟩, zWA_of (i := 1047) (by decide +kernel) (by decide +kernel), zWA_of (i := 1049) (by decide +kernel) (by decide +kernel), zWA_sel (i := 46) (by decide +kernel) (by decide +kernel)⟩
theorem f_Mod_187 : zFd "TableMachineModel" 187 9 30 := ⟨_, _, _, rfl, by decide, zu9, zWA_of (i := 829) (by decide +kernel) (by decide +kernel)⟩
theorem p_9_30 : zFp 9 30 (.int) false := fun _ _ _ h => by cases h; exact ⟨zt9, zk9, zn9, rfl, by decide +kernel⟩
theorem f_Mod_190 : zFd "TableMachineModel" 190 9 31 := ⟨_, _, _, rfl, by decide, zu9, zWA_of (i := 830) (by decide +kernel) (by decide +kernel)⟩
theorem p_9_31 : zFp 9 31 (.int) false := fun _ _ _ h => by cases h; exact ⟨zt9, zk9, zn9, rfl, by decide +kernel⟩
theorem g_Mod_200 : zGv "TableMachineModel" 200 m_Mod_length 1 := ⟨⟨zWA_of (i := 1066) (by decide +kernel) (by decide +kernel), zWA_of (i := 10) (by decide +kernel) (by decide +kernel), ⟨by decide +kernel, by decide +kernel, by decide +kernel⟩, by decide⟩, zWA_of (i := 1063) (by decide +kernel) (by decide +kernel), zWA_of (i := 1065) (by decide +kernel) (by decide +kernel), zWA_sel (i := 47) (by decide +kernel) (by decide +kernel)⟩
theorem g_Mod_203 : zGv "TableMachineModel" 203 m_Mod_loop 3 := ⟨⟨zWA_of (i := 1074) (by decide +kernel) (by decide +kernel), zWA_of (i := 10) (by decide +kernel) (by decide +kernel), ⟨by decide +kernel, by decide +kernel, by decide +kernel⟩, by decide⟩, zWA_of (i := 1071) (by decide +kernel) (by decide +kernel), zWA_of (i := 1073) (by decide +kernel) (by decide +kernel), zWA_sel (i := 49) (by decide +kernel) (by decide +kernel)⟩
theorem g_Mod_196 : zGv "TableMachineModel" 196 m_Mod_read 3 := ⟨⟨zWA_of (i := 1078) (by decide +kernel) (by decide +kernel), zWA_of (i := 10) (by decide +kernel) (by decide +kernel), ⟨by decide +kernel, by decide +kernel, by decide +kernel⟩, by decide⟩, zWA_of (i := 1075) (by decide +kernel) (by decide +kernel), zWA_of (i := 1077) (by decide +kernel) (by decide +kernel), zWA_sel (i := 50) (by decide +kernel) (by decide +kernel)⟩
theorem g_Mod_207 : zGv "TableMachineModel" 207 m_Mod_outputsAndResult 0 := ⟨⟨zWA_of (i := 1082) (by decide +kernel) (by decide +kernel), zWA_of (i := 10) (by decide +kernel) (by decide +kernel), ⟨by decide +kernel, by decide +kernel, by decide +kernel⟩, by decide⟩, zWA_of (i := 1079) (by decide +kernel) (by decide +kernel), zWA_of (i := 1081) (by decide +kernel) (by decide +kernel), zWA_sel (i := 51) (by decide +kernel) (by decide +kernel)⟩
theorem g_Mod_193 : zGv "TableMachineModel" 193 m_Mod_seeker 1 := ⟨⟨zWA_of (i := 1070) (by decide +kernel) (by decide +kernel), zWA_of (i := 10) (by decide +kernel) (by decide +kernel), ⟨by decide +kernel, by decide +kernel, by decide +kernel⟩, by decide⟩, zWA_of (i := 1067) (by decide +kernel) (by decide +kernel), zWA_of (i := 1069) (by decide +kernel) (by decide +kernel), zWA_sel (i := 48) (by decide +kernel) (by decide +kernel)⟩
end
section
theorem d_Val_init_0 : decode m_Val_init.2.1 0 = .ok (.aload_n 0, 1) := by decide +kernel
theorem d_Val_init_1 : decode m_Val_init.2.1 1 = .ok (.invokespecial 1, 3) := by decide +kernel
theorem d_Val_init_4 : decode m_Val_init.2.1 4 = .ok (.aload_n 0, 1) := by decide +kernel
theorem d_Val_init_5 : decode m_Val_init.2.1 5 = .ok (.iload_n 1, 1) := by decide +kernel
theorem d_Val_init_6 : decode m_Val_init.2.1 6 = .ok (.newarray .long, 2) := by decide +kernel
theorem d_Val_init_8 : decode m_Val_init.2.1 8 = .ok (.putfield 7, 3) := by decide +kernel
theorem d_Val_init_11 : decode m_Val_init.2.1 11 = .ok (.aload_n 0, 1) := by decide +kernel
theorem d_Val_init_12 : decode m_Val_init.2.1 12 = .ok (.iload_n 1, 1) := by decide +kernel
theorem d_Val_init_13 : decode m_Val_init.2.1 13 = .ok (.newarray .boolean, 2) := by decide +kernel
theorem d_Val_init_15 : decode m_Val_init.2.1 15 = .ok (.putfield 13, 3) := by decide +kernel
theorem d_Val_init_18 : decode m_Val_init.2.1 18 = .ok (.return_, 1) := by decide +kernel
theorem d_Val_put_0 : decode m_Val_put.2.1 0 = .ok (.aload_n 0, 1) := by decide +kernel
theorem d_Val_put_1 : decode m_Val_put.2.1 1 = .ok (.getfield 7, 3) := by decide +kernel
theorem d_Val_put_4 : decode m_Val_put.2.1 4 = .ok (.iload_n 1, 1) := by decide +kernel
theorem d_Val_put_5 : decode m_Val_put.2.1 5 = .ok (.lload_n 2, 1) := by decide +kernel
theorem d_Val_put_6 : decode m_Val_put.2.1 6 = .ok (.lastore, 1) := by decide +kernel
theorem d_Val_put_7 : decode m_Val_put.2.1 7 = .ok (.aload_n 0, 1) := by decide +kernel
theorem d_Val_put_8 : decode m_Val_put.2.1 8 = .ok (.getfield 13, 3) := by decide +kernel
theorem d_Val_put_11 : decode m_Val_put.2.1 11 = .ok (.iload_n 1, 1) := by decide +kernel
theorem d_Val_put_12 : decode m_Val_put.2.1 12 = .ok (.iconst 1, 1) := by decide +kernel
theorem d_Val_put_13 : decode m_Val_put.2.1 13 = .ok (.bastore, 1) := by decide +kernel
theorem d_Val_put_14 : decode m_Val_put.2.1 14 = .ok (.return_, 1) := by decide +kernel
theorem d_Val_clear_0 : decode m_Val_clear.2.1 0 = .ok (.aload_n 0, 1) := by decide +kernel
theorem d_Val_clear_1 : decode m_Val_clear.2.1 1 = .ok (.getfield 7, 3) := by decide +kernel
theorem d_Val_clear_4 : decode m_Val_clear.2.1 4 = .ok (.iload_n 1, 1) := by decide +kernel
theorem d_Val_clear_5 : decode m_Val_clear.2.1 5 = .ok (.lconst 0, 1) := by decide +kernel
theorem d_Val_clear_6 : decode m_Val_clear.2.1 6 = .ok (.lastore, 1) := by decide +kernel
theorem d_Val_clear_7 : decode m_Val_clear.2.1 7 = .ok (.aload_n 0, 1) := by decide +kernel
theorem d_Val_clear_8 : decode m_Val_clear.2.1 8 = .ok (.getfield 13, 3) := by decide +kernel
theorem d_Val_clear_11 : decode m_Val_clear.2.1 11 = .ok (.iload_n 1, 1) := by decide +kernel
theorem d_Val_clear_12 : decode m_Val_clear.2.1 12 = .ok (.iconst 0, 1) := by decide +kernel
theorem d_Val_clear_13 : decode m_Val_clear.2.1 13 = .ok (.bastore, 1) := by decide +kernel
theorem d_Val_clear_14 : decode m_Val_clear.2.1 14 = .ok (.return_, 1) := by decide +kernel
theorem d_Val_copy_0 : decode m_Val_copy.2.1 0 = .ok (.aload_n 0, 1) := by decide +kernel
theorem d_Val_copy_1 : decode m_Val_copy.2.1 1 = .ok (.getfield 7, 3) := by decide +kernel
theorem d_Val_copy_4 : decode m_Val_copy.2.1 4 = .ok (.iload_n 1, 1) := by decide +kernel
theorem d_Val_copy_5 : decode m_Val_copy.2.1 5 = .ok (.aload_n 2, 1) := by decide +kernel
theorem d_Val_copy_6 : decode m_Val_copy.2.1 6 = .ok (.getfield 7, 3) := by decide +kernel
theorem d_Val_copy_9 : decode m_Val_copy.2.1 9 = .ok (.iload_n 3, 1) := by decide +kernel
theorem d_Val_copy_10 : decode m_Val_copy.2.1 10 = .ok (.laload, 1) := by decide +kernel
theorem d_Val_copy_11 : decode m_Val_copy.2.1 11 = .ok (.lastore, 1) := by decide +kernel
theorem d_Val_copy_12 : decode m_Val_copy.2.1 12 = .ok (.aload_n 0, 1) := by decide +kernel
theorem d_Val_copy_13 : decode m_Val_copy.2.1 13 = .ok (.getfield 13, 3) := by decide +kernel
theorem d_Val_copy_16 : decode m_Val_copy.2.1 16 = .ok (.iload_n 1, 1) := by decide +kernel
theorem d_Val_copy_17 : decode m_Val_copy.2.1 17 = .ok (.aload_n 2, 1) := by decide +kernel
theorem d_Val_copy_18 : decode m_Val_copy.2.1 18 = .ok (.getfield 13, 3) := by decide +kernel
theorem d_Val_copy_21 : decode m_Val_copy.2.1 21 = .ok (.iload_n 3, 1) := by decide +kernel
theorem d_Val_copy_22 : decode m_Val_copy.2.1 22 = .ok (.baload, 1) := by decide +kernel
theorem d_Val_copy_23 : decode m_Val_copy.2.1 23 = .ok (.bastore, 1) := by decide +kernel
theorem d_Val_copy_24 : decode m_Val_copy.2.1 24 = .ok (.return_, 1) := by decide +kernel
theorem d_Val_number_0 : decode m_Val_number.2.1 0 = .ok (.aload_n 0, 1) := by decide +kernel
theorem d_Val_number_1 : decode m_Val_number.2.1 1 = .ok (.getfield 7, 3) := by decide +kernel
theorem d_Val_number_4 : decode m_Val_number.2.1 4 = .ok (.iload_n 1, 1) := by decide +kernel
theorem d_Val_number_5 : decode m_Val_number.2.1 5 = .ok (.laload, 1) := by decide +kernel
theorem d_Val_number_6 : decode m_Val_number.2.1 6 = .ok (.lreturn, 1) := by decide +kernel
theorem d_Val_has_0 : decode m_Val_has.2.1 0 = .ok (.aload_n 0, 1) := by decide +kernel
theorem d_Val_has_1 : decode m_Val_has.2.1 1 = .ok (.getfield 13, 3) := by decide +kernel
theorem d_Val_has_4 : decode m_Val_has.2.1 4 = .ok (.iload_n 1, 1) := by decide +kernel
theorem d_Val_has_5 : decode m_Val_has.2.1 5 = .ok (.baload, 1) := by decide +kernel
theorem d_Val_has_6 : decode m_Val_has.2.1 6 = .ok (.ireturn, 1) := by decide +kernel
theorem d_Val_clearAll_0 : decode m_Val_clearAll.2.1 0 = .ok (.iconst 0, 1) := by decide +kernel
theorem d_Val_clearAll_1 : decode m_Val_clearAll.2.1 1 = .ok (.istore_n 1, 1) := by decide +kernel
theorem d_Val_clearAll_2 : decode m_Val_clearAll.2.1 2 = .ok (.iload_n 1, 1) := by decide +kernel
theorem d_Val_clearAll_3 : decode m_Val_clearAll.2.1 3 = .ok (.aload_n 0, 1) := by decide +kernel
theorem d_Val_clearAll_4 : decode m_Val_clearAll.2.1 4 = .ok (.getfield 7, 3) := by decide +kernel
theorem d_Val_clearAll_7 : decode m_Val_clearAll.2.1 7 = .ok (.arraylength, 1) := by decide +kernel
theorem d_Val_clearAll_8 : decode m_Val_clearAll.2.1 8 = .ok (.if_icmp .ge 14, 3) := by decide +kernel
theorem d_Val_clearAll_11 : decode m_Val_clearAll.2.1 11 = .ok (.aload_n 0, 1) := by decide +kernel
theorem d_Val_clearAll_12 : decode m_Val_clearAll.2.1 12 = .ok (.iload_n 1, 1) := by decide +kernel
theorem d_Val_clearAll_13 : decode m_Val_clearAll.2.1 13 = .ok (.invokevirtual 17, 3) := by decide +kernel
theorem d_Val_clearAll_16 : decode m_Val_clearAll.2.1 16 = .ok (.iinc 1 1, 3) := by decide +kernel
theorem d_Val_clearAll_19 : decode m_Val_clearAll.2.1 19 = .ok (.goto (-17), 3) := by decide +kernel
theorem d_Val_clearAll_22 : decode m_Val_clearAll.2.1 22 = .ok (.return_, 1) := by decide +kernel
theorem d_Tab_init_0 : decode m_Tab_init.2.1 0 = .ok (.aload_n 0, 1) := by decide +kernel
theorem d_Tab_init_1 : decode m_Tab_init.2.1 1 = .ok (.invokespecial 3, 3) := by decide +kernel
theorem d_Tab_init_4 : decode m_Tab_init.2.1 4 = .ok (.aload_n 0, 1) := by decide +kernel
theorem d_Tab_init_5 : decode m_Tab_init.2.1 5 = .ok (.iconst 0, 1) := by decide +kernel
theorem d_Tab_init_6 : decode m_Tab_init.2.1 6 = .ok (.putfield 9, 3) := by decide +kernel
theorem d_Tab_init_9 : decode m_Tab_init.2.1 9 = .ok (.aload_n 0, 1) := by decide +kernel
theorem d_Tab_init_10 : decode m_Tab_init.2.1 10 = .ok (.iconst 0, 1) := by decide +kernel
theorem d_Tab_init_11 : decode m_Tab_init.2.1 11 = .ok (.putfield 15, 3) := by decide +kernel
theorem d_Tab_init_14 : decode m_Tab_init.2.1 14 = .ok (.aload_n 0, 1) := by decide +kernel
theorem d_Tab_init_15 : decode m_Tab_init.2.1 15 = .ok (.bipush 90, 2) := by decide +kernel
theorem d_Tab_init_17 : decode m_Tab_init.2.1 17 = .ok (.newarray .int, 2) := by decide +kernel
theorem d_Tab_init_19 : decode m_Tab_init.2.1 19 = .ok (.putfield 18, 3) := by decide +kernel
theorem d_Tab_init_22 : decode m_Tab_init.2.1 22 = .ok (.return_, 1) := by decide +kernel
theorem d_Tab_open_0 : decode m_Tab_open.2.1 0 = .ok (.aload_n 0, 1) := by decide +kernel
theorem d_Tab_open_1 : decode m_Tab_open.2.1 1 = .ok (.getfield 15, 3) := by decide +kernel
theorem d_Tab_open_4 : decode m_Tab_open.2.1 4 = .ok (.istore_n 3, 1) := by decide +kernel
theorem d_Tab_open_5 : decode m_Tab_open.2.1 5 = .ok (.iload_n 3, 1) := by decide +kernel
theorem d_Tab_open_6 : decode m_Tab_open.2.1 6 = .ok (.iload_n 1, 1) := by decide +kernel
theorem d_Tab_open_7 : decode m_Tab_open.2.1 7 = .ok (.if_icmp .le 23, 3) := by decide +kernel
theorem d_Tab_open_10 : decode m_Tab_open.2.1 10 = .ok (.aload_n 0, 1) := by decide +kernel
theorem d_Tab_open_11 : decode m_Tab_open.2.1 11 = .ok (.getfield 18, 3) := by decide +kernel
theorem d_Tab_open_14 : decode m_Tab_open.2.1 14 = .ok (.iload_n 3, 1) := by decide +kernel
theorem d_Tab_open_15 : decode m_Tab_open.2.1 15 = .ok (.aload_n 0, 1) := by decide +kernel
theorem d_Tab_open_16 : decode m_Tab_open.2.1 16 = .ok (.getfield 18, 3) := by decide +kernel
theorem d_Tab_open_19 : decode m_Tab_open.2.1 19 = .ok (.iload_n 3, 1) := by decide +kernel
theorem d_Tab_open_20 : decode m_Tab_open.2.1 20 = .ok (.iconst 1, 1) := by decide +kernel
theorem d_Tab_open_21 : decode m_Tab_open.2.1 21 = .ok (.isub, 1) := by decide +kernel
theorem d_Tab_open_22 : decode m_Tab_open.2.1 22 = .ok (.iaload, 1) := by decide +kernel
theorem d_Tab_open_23 : decode m_Tab_open.2.1 23 = .ok (.iastore, 1) := by decide +kernel
theorem d_Tab_open_24 : decode m_Tab_open.2.1 24 = .ok (.iinc 3 (-1), 3) := by decide +kernel
theorem d_Tab_open_27 : decode m_Tab_open.2.1 27 = .ok (.goto (-22), 3) := by decide +kernel
theorem d_Tab_open_30 : decode m_Tab_open.2.1 30 = .ok (.aload_n 0, 1) := by decide +kernel
theorem d_Tab_open_31 : decode m_Tab_open.2.1 31 = .ok (.getfield 18, 3) := by decide +kernel
theorem d_Tab_open_34 : decode m_Tab_open.2.1 34 = .ok (.iload_n 1, 1) := by decide +kernel
theorem d_Tab_open_35 : decode m_Tab_open.2.1 35 = .ok (.iload_n 2, 1) := by decide +kernel
theorem d_Tab_open_36 : decode m_Tab_open.2.1 36 = .ok (.iastore, 1) := by decide +kernel
theorem d_Tab_open_37 : decode m_Tab_open.2.1 37 = .ok (.aload_n 0, 1) := by decide +kernel
theorem d_Tab_open_38 : decode m_Tab_open.2.1 38 = .ok (.dup, 1) := by decide +kernel
theorem d_Tab_open_39 : decode m_Tab_open.2.1 39 = .ok (.getfield 15, 3) := by decide +kernel
theorem d_Tab_open_42 : decode m_Tab_open.2.1 42 = .ok (.iconst 1, 1) := by decide +kernel
theorem d_Tab_open_43 : decode m_Tab_open.2.1 43 = .ok (.iadd, 1) := by decide +kernel
theorem d_Tab_open_44 : decode m_Tab_open.2.1 44 = .ok (.putfield 15, 3) := by decide +kernel
theorem d_Tab_open_47 : decode m_Tab_open.2.1 47 = .ok (.return_, 1) := by decide +kernel
theorem d_Tab_close_0 : decode m_Tab_close.2.1 0 = .ok (.aload_n 0, 1) := by decide +kernel
theorem d_Tab_close_1 : decode m_Tab_close.2.1 1 = .ok (.dup, 1) := by decide +kernel
theorem d_Tab_close_2 : decode m_Tab_close.2.1 2 = .ok (.getfield 15, 3) := by decide +kernel
theorem d_Tab_close_5 : decode m_Tab_close.2.1 5 = .ok (.iconst 1, 1) := by decide +kernel
theorem d_Tab_close_6 : decode m_Tab_close.2.1 6 = .ok (.isub, 1) := by decide +kernel
theorem d_Tab_close_7 : decode m_Tab_close.2.1 7 = .ok (.putfield 15, 3) := by decide +kernel
theorem d_Tab_close_10 : decode m_Tab_close.2.1 10 = .ok (.iload_n 1, 1) := by decide +kernel
theorem d_Tab_close_11 : decode m_Tab_close.2.1 11 = .ok (.istore_n 2, 1) := by decide +kernel
theorem d_Tab_close_12 : decode m_Tab_close.2.1 12 = .ok (.iload_n 2, 1) := by decide +kernel
theorem d_Tab_close_13 : decode m_Tab_close.2.1 13 = .ok (.aload_n 0, 1) := by decide +kernel
theorem d_Tab_close_14 : decode m_Tab_close.2.1 14 = .ok (.getfield 15, 3) := by decide +kernel
theorem d_Tab_close_17 : decode m_Tab_close.2.1 17 = .ok (.if_icmp .ge 23, 3) := by decide +kernel
theorem d_Tab_close_20 : decode m_Tab_close.2.1 20 = .ok (.aload_n 0, 1) := by decide +kernel
theorem d_Tab_close_21 : decode m_Tab_close.2.1 21 = .ok (.getfield 18, 3) := by decide +kernel
theorem d_Tab_close_24 : decode m_Tab_close.2.1 24 = .ok (.iload_n 2, 1) := by decide +kernel
theorem d_Tab_close_25 : decode m_Tab_close.2.1 25 = .ok (.aload_n 0, 1) := by decide +kernel
theorem d_Tab_close_26 : decode m_Tab_close.2.1 26 = .ok (.getfield 18, 3) := by decide +kernel
theorem d_Tab_close_29 : decode m_Tab_close.2.1 29 = .ok (.iload_n 2, 1) := by decide +kernel
theorem d_Tab_close_30 : decode m_Tab_close.2.1 30 = .ok (.iconst 1, 1) := by decide +kernel
theorem d_Tab_close_31 : decode m_Tab_close.2.1 31 = .ok (.iadd, 1) := by decide +kernel
theorem d_Tab_close_32 : decode m_Tab_close.2.1 32 = .ok (.iaload, 1) := by decide +kernel
theorem d_Tab_close_33 : decode m_Tab_close.2.1 33 = .ok (.iastore, 1) := by decide +kernel
theorem d_Tab_close_34 : decode m_Tab_close.2.1 34 = .ok (.iinc 2 1, 3) := by decide +kernel
theorem d_Tab_close_37 : decode m_Tab_close.2.1 37 = .ok (.goto (-25), 3) := by decide +kernel
theorem d_Tab_close_40 : decode m_Tab_close.2.1 40 = .ok (.return_, 1) := by decide +kernel
theorem d_Cur_init_0 : decode m_Cur_init.2.1 0 = .ok (.aload_n 0, 1) := by decide +kernel
theorem d_Cur_init_1 : decode m_Cur_init.2.1 1 = .ok (.invokespecial 3, 3) := by decide +kernel
theorem d_Cur_init_4 : decode m_Cur_init.2.1 4 = .ok (.aload_n 0, 1) := by decide +kernel
theorem d_Cur_init_5 : decode m_Cur_init.2.1 5 = .ok (.iconst (-1), 1) := by decide +kernel
theorem d_Cur_init_6 : decode m_Cur_init.2.1 6 = .ok (.putfield 9, 3) := by decide +kernel
theorem d_Cur_init_9 : decode m_Cur_init.2.1 9 = .ok (.aload_n 0, 1) := by decide +kernel
theorem d_Cur_init_10 : decode m_Cur_init.2.1 10 = .ok (.iconst 0, 1) := by decide +kernel
theorem d_Cur_init_11 : decode m_Cur_init.2.1 11 = .ok (.putfield 15, 3) := by decide +kernel
theorem d_Cur_init_14 : decode m_Cur_init.2.1 14 = .ok (.aload_n 0, 1) := by decide +kernel
theorem d_Cur_init_15 : decode m_Cur_init.2.1 15 = .ok (.lconst 0, 1) := by decide +kernel
theorem d_Cur_init_16 : decode m_Cur_init.2.1 16 = .ok (.putfield 19, 3) := by decide +kernel
theorem d_Cur_init_19 : decode m_Cur_init.2.1 19 = .ok (.return_, 1) := by decide +kernel
theorem d_Cur_shut_0 : decode m_Cur_shut.2.1 0 = .ok (.aload_n 0, 1) := by decide +kernel
theorem d_Cur_shut_1 : decode m_Cur_shut.2.1 1 = .ok (.iconst (-1), 1) := by decide +kernel
theorem d_Cur_shut_2 : decode m_Cur_shut.2.1 2 = .ok (.invokevirtual 23, 3) := by decide +kernel
theorem d_Cur_shut_5 : decode m_Cur_shut.2.1 5 = .ok (.return_, 1) := by decide +kernel
theorem d_Cur_open_0 : decode m_Cur_open.2.1 0 = .ok (.aload_n 0, 1) := by decide +kernel
theorem d_Cur_open_1 : decode m_Cur_open.2.1 1 = .ok (.iload_n 1, 1) := by decide +kernel
theorem d_Cur_open_2 : decode m_Cur_open.2.1 2 = .ok (.putfield 9, 3) := by decide +kernel
theorem d_Cur_open_5 : decode m_Cur_open.2.1 5 = .ok (.aload_n 0, 1) := by decide +kernel
theorem d_Cur_open_6 : decode m_Cur_open.2.1 6 = .ok (.iconst 0, 1) := by decide +kernel
theorem d_Cur_open_7 : decode m_Cur_open.2.1 7 = .ok (.putfield 15, 3) := by decide +kernel
theorem d_Cur_open_10 : decode m_Cur_open.2.1 10 = .ok (.return_, 1) := by decide +kernel
theorem d_Cur_isShut_0 : decode m_Cur_isShut.2.1 0 = .ok (.aload_n 0, 1) := by decide +kernel
theorem d_Cur_isShut_1 : decode m_Cur_isShut.2.1 1 = .ok (.getfield 9, 3) := by decide +kernel
theorem d_Cur_isShut_4 : decode m_Cur_isShut.2.1 4 = .ok (.iconst (-1), 1) := by decide +kernel
theorem d_Cur_isShut_5 : decode m_Cur_isShut.2.1 5 = .ok (.if_icmp .ne 7, 3) := by decide +kernel
theorem d_Cur_isShut_8 : decode m_Cur_isShut.2.1 8 = .ok (.iconst 1, 1) := by decide +kernel
theorem d_Cur_isShut_9 : decode m_Cur_isShut.2.1 9 = .ok (.goto 4, 3) := by decide +kernel
theorem d_Cur_isShut_12 : decode m_Cur_isShut.2.1 12 = .ok (.iconst 0, 1) := by decide +kernel
theorem d_Cur_isShut_13 : decode m_Cur_isShut.2.1 13 = .ok (.ireturn, 1) := by decide +kernel
theorem d_Kin_takes_0 : decode m_Kin_takes.2.1 0 = .ok (.iload_n 0, 1) := by decide +kernel
theorem d_Kin_takes_1 : decode m_Kin_takes.2.1 1 = .ok (.tableswitch 98 1 7 #[43, 49, 55, 62, 68, 75, 82], 43) := by decide +kernel
theorem d_Kin_takes_44 : decode m_Kin_takes.2.1 44 = .ok (.iload_n 1, 1) := by decide +kernel
theorem d_Kin_takes_45 : decode m_Kin_takes.2.1 45 = .ok (.iconst 3, 1) := by decide +kernel
theorem d_Kin_takes_46 : decode m_Kin_takes.2.1 46 = .ok (.invokestatic 9, 3) := by decide +kernel
theorem d_Kin_takes_49 : decode m_Kin_takes.2.1 49 = .ok (.ireturn, 1) := by decide +kernel
theorem d_Kin_takes_50 : decode m_Kin_takes.2.1 50 = .ok (.iload_n 1, 1) := by decide +kernel
theorem d_Kin_takes_51 : decode m_Kin_takes.2.1 51 = .ok (.iconst 3, 1) := by decide +kernel
theorem d_Kin_takes_52 : decode m_Kin_takes.2.1 52 = .ok (.invokestatic 9, 3) := by decide +kernel
theorem d_Kin_takes_55 : decode m_Kin_takes.2.1 55 = .ok (.ireturn, 1) := by decide +kernel
theorem d_Kin_takes_56 : decode m_Kin_takes.2.1 56 = .ok (.iload_n 1, 1) := by decide +kernel
theorem d_Kin_takes_57 : decode m_Kin_takes.2.1 57 = .ok (.bipush 61, 2) := by decide +kernel
theorem d_Kin_takes_59 : decode m_Kin_takes.2.1 59 = .ok (.invokestatic 9, 3) := by decide +kernel
theorem d_Kin_takes_62 : decode m_Kin_takes.2.1 62 = .ok (.ireturn, 1) := by decide +kernel
theorem d_Kin_takes_63 : decode m_Kin_takes.2.1 63 = .ok (.iload_n 1, 1) := by decide +kernel
theorem d_Kin_takes_64 : decode m_Kin_takes.2.1 64 = .ok (.iconst 4, 1) := by decide +kernel
theorem d_Kin_takes_65 : decode m_Kin_takes.2.1 65 = .ok (.invokestatic 9, 3) := by decide +kernel
theorem d_Kin_takes_68 : decode m_Kin_takes.2.1 68 = .ok (.ireturn, 1) := by decide +kernel
theorem d_Kin_takes_69 : decode m_Kin_takes.2.1 69 = .ok (.iload_n 1, 1) := by decide +kernel
theorem d_Kin_takes_70 : decode m_Kin_takes.2.1 70 = .ok (.bipush 16, 2) := by decide +kernel
theorem d_Kin_takes_72 : decode m_Kin_takes.2.1 72 = .ok (.invokestatic 9, 3) := by decide +kernel
theorem d_Kin_takes_75 : decode m_Kin_takes.2.1 75 = .ok (.ireturn, 1) := by decide +kernel
theorem d_Kin_takes_76 : decode m_Kin_takes.2.1 76 = .ok (.iload_n 1, 1) := by decide +kernel
theorem d_Kin_takes_77 : decode m_Kin_takes.2.1 77 = .ok (.bipush 12, 2) := by decide +kernel
theorem d_Kin_takes_79 : decode m_Kin_takes.2.1 79 = .ok (.invokestatic 9, 3) := by decide +kernel
theorem d_Kin_takes_82 : decode m_Kin_takes.2.1 82 = .ok (.ireturn, 1) := by decide +kernel
theorem d_Kin_takes_83 : decode m_Kin_takes.2.1 83 = .ok (.iload_n 1, 1) := by decide +kernel
theorem d_Kin_takes_84 : decode m_Kin_takes.2.1 84 = .ok (.iconst 1, 1) := by decide +kernel
theorem d_Kin_takes_85 : decode m_Kin_takes.2.1 85 = .ok (.if_icmp .lt 12, 3) := by decide +kernel
theorem d_Kin_takes_88 : decode m_Kin_takes.2.1 88 = .ok (.iload_n 1, 1) := by decide +kernel
theorem d_Kin_takes_89 : decode m_Kin_takes.2.1 89 = .ok (.iconst 4, 1) := by decide +kernel
theorem d_Kin_takes_90 : decode m_Kin_takes.2.1 90 = .ok (.if_icmp .gt 7, 3) := by decide +kernel
theorem d_Kin_takes_93 : decode m_Kin_takes.2.1 93 = .ok (.iconst 1, 1) := by decide +kernel
theorem d_Kin_takes_94 : decode m_Kin_takes.2.1 94 = .ok (.goto 4, 3) := by decide +kernel
theorem d_Kin_takes_97 : decode m_Kin_takes.2.1 97 = .ok (.iconst 0, 1) := by decide +kernel
theorem d_Kin_takes_98 : decode m_Kin_takes.2.1 98 = .ok (.ireturn, 1) := by decide +kernel
theorem d_Kin_takes_99 : decode m_Kin_takes.2.1 99 = .ok (.iconst 1, 1) := by decide +kernel
theorem d_Kin_takes_100 : decode m_Kin_takes.2.1 100 = .ok (.ireturn, 1) := by decide +kernel
theorem d_Op_accepts_0 : decode m_Op_accepts.2.1 0 = .ok (.iload_n 0, 1) := by decide +kernel
theorem d_Op_accepts_1 : decode m_Op_accepts.2.1 1 = .ok (.bipush 22, 2) := by decide +kernel
theorem d_Op_accepts_3 : decode m_Op_accepts.2.1 3 = .ok (.invokestatic 15, 3) := by decide +kernel
theorem d_Op_accepts_6 : decode m_Op_accepts.2.1 6 = .ok (.ifCond .ne 5, 3) := by decide +kernel
theorem d_Op_accepts_9 : decode m_Op_accepts.2.1 9 = .ok (.iconst 0, 1) := by decide +kernel
theorem d_Op_accepts_10 : decode m_Op_accepts.2.1 10 = .ok (.ireturn, 1) := by decide +kernel
theorem d_Op_accepts_11 : decode m_Op_accepts.2.1 11 = .ok (.iload_n 0, 1) := by decide +kernel
theorem d_Op_accepts_12 : decode m_Op_accepts.2.1 12 = .ok (.iconst 0, 1) := by decide +kernel
theorem d_Op_accepts_13 : decode m_Op_accepts.2.1 13 = .ok (.invokestatic 19, 3) := by decide +kernel
theorem d_Op_accepts_16 : decode m_Op_accepts.2.1 16 = .ok (.iload_n 1, 1) := by decide +kernel
theorem d_Op_accepts_17 : decode m_Op_accepts.2.1 17 = .ok (.invokestatic 23, 3) := by decide +kernel
theorem d_Op_accepts_20 : decode m_Op_accepts.2.1 20 = .ok (.ifCond .eq 27, 3) := by decide +kernel
theorem d_Op_accepts_23 : decode m_Op_accepts.2.1 23 = .ok (.iload_n 0, 1) := by decide +kernel
theorem d_Op_accepts_24 : decode m_Op_accepts.2.1 24 = .ok (.iconst 1, 1) := by decide +kernel
theorem d_Op_accepts_25 : decode m_Op_accepts.2.1 25 = .ok (.invokestatic 19, 3) := by decide +kernel
theorem d_Op_accepts_28 : decode m_Op_accepts.2.1 28 = .ok (.iload_n 2, 1) := by decide +kernel
theorem d_Op_accepts_29 : decode m_Op_accepts.2.1 29 = .ok (.invokestatic 23, 3) := by decide +kernel
theorem d_Op_accepts_32 : decode m_Op_accepts.2.1 32 = .ok (.ifCond .eq 15, 3) := by decide +kernel
theorem d_Op_accepts_35 : decode m_Op_accepts.2.1 35 = .ok (.iload_n 0, 1) := by decide +kernel
theorem d_Op_accepts_36 : decode m_Op_accepts.2.1 36 = .ok (.iconst 2, 1) := by decide +kernel
theorem d_Op_accepts_37 : decode m_Op_accepts.2.1 37 = .ok (.invokestatic 19, 3) := by decide +kernel
theorem d_Op_accepts_40 : decode m_Op_accepts.2.1 40 = .ok (.iload_n 3, 1) := by decide +kernel
theorem d_Op_accepts_41 : decode m_Op_accepts.2.1 41 = .ok (.invokestatic 23, 3) := by decide +kernel
theorem d_Op_accepts_44 : decode m_Op_accepts.2.1 44 = .ok (.ifCond .ne 5, 3) := by decide +kernel
theorem d_Op_accepts_47 : decode m_Op_accepts.2.1 47 = .ok (.iconst 0, 1) := by decide +kernel
theorem d_Op_accepts_48 : decode m_Op_accepts.2.1 48 = .ok (.ireturn, 1) := by decide +kernel
theorem d_Op_accepts_49 : decode m_Op_accepts.2.1 49 = .ok (.iload_n 0, 1) := by decide +kernel
theorem d_Op_accepts_50 : decode m_Op_accepts.2.1 50 = .ok (.bipush 18, 2) := by decide +kernel
theorem d_Op_accepts_52 : decode m_Op_accepts.2.1 52 = .ok (.if_icmp .ne 11, 3) := by decide +kernel
theorem d_Op_accepts_55 : decode m_Op_accepts.2.1 55 = .ok (.iload_n 1, 1) := by decide +kernel
theorem d_Op_accepts_56 : decode m_Op_accepts.2.1 56 = .ok (.iload_n 2, 1) := by decide +kernel
theorem d_Op_accepts_57 : decode m_Op_accepts.2.1 57 = .ok (.iadd, 1) := by decide +kernel
theorem d_Op_accepts_58 : decode m_Op_accepts.2.1 58 = .ok (.bipush 16, 2) := by decide +kernel
theorem d_Op_accepts_60 : decode m_Op_accepts.2.1 60 = .ok (.if_icmp .gt 7, 3) := by decide +kernel
theorem d_Op_accepts_63 : decode m_Op_accepts.2.1 63 = .ok (.iconst 1, 1) := by decide +kernel
theorem d_Op_accepts_64 : decode m_Op_accepts.2.1 64 = .ok (.goto 4, 3) := by decide +kernel
theorem d_Op_accepts_67 : decode m_Op_accepts.2.1 67 = .ok (.iconst 0, 1) := by decide +kernel
theorem d_Op_accepts_68 : decode m_Op_accepts.2.1 68 = .ok (.ireturn, 1) := by decide +kernel
theorem d_Op_kind_0 : decode m_Op_kind.2.1 0 = .ok (.getstatic 9, 3) := by decide +kernel
theorem d_Op_kind_3 : decode m_Op_kind.2.1 3 = .ok (.iload_n 0, 1) := by decide +kernel
theorem d_Op_kind_4 : decode m_Op_kind.2.1 4 = .ok (.iconst 3, 1) := by decide +kernel
theorem d_Op_kind_5 : decode m_Op_kind.2.1 5 = .ok (.imul, 1) := by decide +kernel
theorem d_Op_kind_6 : decode m_Op_kind.2.1 6 = .ok (.iload_n 1, 1) := by decide +kernel
theorem d_Op_kind_7 : decode m_Op_kind.2.1 7 = .ok (.iadd, 1) := by decide +kernel
theorem d_Op_kind_8 : decode m_Op_kind.2.1 8 = .ok (.iaload, 1) := by decide +kernel
theorem d_Op_kind_9 : decode m_Op_kind.2.1 9 = .ok (.ireturn, 1) := by decide +kernel
theorem d_Op_kept_0 : decode m_Op_kept.2.1 0 = .ok (.iload_n 0, 1) := by decide +kernel
theorem d_Op_kept_1 : decode m_Op_kept.2.1 1 = .ok (.iload_n 1, 1) := by decide +kernel
theorem d_Op_kept_2 : decode m_Op_kept.2.1 2 = .ok (.invokestatic 19, 3) := by decide +kernel
theorem d_Op_kept_5 : decode m_Op_kept.2.1 5 = .ok (.ifCond .ne 7, 3) := by decide +kernel
theorem d_Op_kept_8 : decode m_Op_kept.2.1 8 = .ok (.iconst 0, 1) := by decide +kernel
theorem d_Op_kept_9 : decode m_Op_kept.2.1 9 = .ok (.goto 4, 3) := by decide +kernel
theorem d_Op_kept_12 : decode m_Op_kept.2.1 12 = .ok (.iload_n 2, 1) := by decide +kernel
theorem d_Op_kept_13 : decode m_Op_kept.2.1 13 = .ok (.ireturn, 1) := by decide +kernel
theorem d_Op_needsOpenCursor_0 : decode m_Op_needsOpenCursor.2.1 0 = .ok (.iload_n 0, 1) := by decide +kernel
theorem d_Op_needsOpenCursor_1 : decode m_Op_needsOpenCursor.2.1 1 = .ok (.iconst 1, 1) := by decide +kernel
theorem d_Op_needsOpenCursor_2 : decode m_Op_needsOpenCursor.2.1 2 = .ok (.if_icmp .eq 16, 3) := by decide +kernel
theorem d_Op_needsOpenCursor_5 : decode m_Op_needsOpenCursor.2.1 5 = .ok (.iload_n 0, 1) := by decide +kernel
theorem d_Op_needsOpenCursor_6 : decode m_Op_needsOpenCursor.2.1 6 = .ok (.iconst 0, 1) := by decide +kernel
theorem d_Op_needsOpenCursor_7 : decode m_Op_needsOpenCursor.2.1 7 = .ok (.invokestatic 19, 3) := by decide +kernel
theorem d_Op_needsOpenCursor_10 : decode m_Op_needsOpenCursor.2.1 10 = .ok (.iconst 1, 1) := by decide +kernel
theorem d_Op_needsOpenCursor_11 : decode m_Op_needsOpenCursor.2.1 11 = .ok (.if_icmp .ne 7, 3) := by decide +kernel
theorem d_Op_needsOpenCursor_14 : decode m_Op_needsOpenCursor.2.1 14 = .ok (.iconst 1, 1) := by decide +kernel
theorem d_Op_needsOpenCursor_15 : decode m_Op_needsOpenCursor.2.1 15 = .ok (.goto 4, 3) := by decide +kernel
theorem d_Op_needsOpenCursor_18 : decode m_Op_needsOpenCursor.2.1 18 = .ok (.iconst 0, 1) := by decide +kernel
theorem d_Op_needsOpenCursor_19 : decode m_Op_needsOpenCursor.2.1 19 = .ok (.ireturn, 1) := by decide +kernel
theorem d_Pro_init_0 : decode m_Pro_init.2.1 0 = .ok (.aload_n 0, 1) := by decide +kernel
theorem d_Pro_init_1 : decode m_Pro_init.2.1 1 = .ok (.invokespecial 3, 3) := by decide +kernel
theorem d_Pro_init_4 : decode m_Pro_init.2.1 4 = .ok (.aload_n 0, 1) := by decide +kernel
theorem d_Pro_init_5 : decode m_Pro_init.2.1 5 = .ok (.iconst 0, 1) := by decide +kernel
theorem d_Pro_init_6 : decode m_Pro_init.2.1 6 = .ok (.putfield 9, 3) := by decide +kernel
theorem d_Pro_init_9 : decode m_Pro_init.2.1 9 = .ok (.aload_n 0, 1) := by decide +kernel
theorem d_Pro_init_10 : decode m_Pro_init.2.1 10 = .ok (.sipush 240, 3) := by decide +kernel
theorem d_Pro_init_13 : decode m_Pro_init.2.1 13 = .ok (.newarray .int, 2) := by decide +kernel
theorem d_Pro_init_15 : decode m_Pro_init.2.1 15 = .ok (.putfield 15, 3) := by decide +kernel
theorem d_Pro_init_18 : decode m_Pro_init.2.1 18 = .ok (.return_, 1) := by decide +kernel
theorem d_Pro_append_0 : decode m_Pro_append.2.1 0 = .ok (.aload_n 0, 1) := by decide +kernel
theorem d_Pro_append_1 : decode m_Pro_append.2.1 1 = .ok (.getfield 9, 3) := by decide +kernel
theorem d_Pro_append_4 : decode m_Pro_append.2.1 4 = .ok (.iconst 4, 1) := by decide +kernel
theorem d_Pro_append_5 : decode m_Pro_append.2.1 5 = .ok (.imul, 1) := by decide +kernel
theorem d_Pro_append_6 : decode m_Pro_append.2.1 6 = .ok (.istore 5, 2) := by decide +kernel
theorem d_Pro_append_8 : decode m_Pro_append.2.1 8 = .ok (.aload_n 0, 1) := by decide +kernel
theorem d_Pro_append_9 : decode m_Pro_append.2.1 9 = .ok (.getfield 15, 3) := by decide +kernel
theorem d_Pro_append_12 : decode m_Pro_append.2.1 12 = .ok (.iload 5, 2) := by decide +kernel
theorem d_Pro_append_14 : decode m_Pro_append.2.1 14 = .ok (.iload_n 1, 1) := by decide +kernel
theorem d_Pro_append_15 : decode m_Pro_append.2.1 15 = .ok (.iastore, 1) := by decide +kernel
theorem d_Pro_append_16 : decode m_Pro_append.2.1 16 = .ok (.aload_n 0, 1) := by decide +kernel
theorem d_Pro_append_17 : decode m_Pro_append.2.1 17 = .ok (.getfield 15, 3) := by decide +kernel
theorem d_Pro_append_20 : decode m_Pro_append.2.1 20 = .ok (.iload 5, 2) := by decide +kernel
theorem d_Pro_append_22 : decode m_Pro_append.2.1 22 = .ok (.iconst 1, 1) := by decide +kernel
theorem d_Pro_append_23 : decode m_Pro_append.2.1 23 = .ok (.iadd, 1) := by decide +kernel
theorem d_Pro_append_24 : decode m_Pro_append.2.1 24 = .ok (.iload_n 2, 1) := by decide +kernel
theorem d_Pro_append_25 : decode m_Pro_append.2.1 25 = .ok (.iastore, 1) := by decide +kernel
theorem d_Pro_append_26 : decode m_Pro_append.2.1 26 = .ok (.aload_n 0, 1) := by decide +kernel
theorem d_Pro_append_27 : decode m_Pro_append.2.1 27 = .ok (.getfield 15, 3) := by decide +kernel
theorem d_Pro_append_30 : decode m_Pro_append.2.1 30 = .ok (.iload 5, 2) := by decide +kernel
theorem d_Pro_append_32 : decode m_Pro_append.2.1 32 = .ok (.iconst 2, 1) := by decide +kernel
theorem d_Pro_append_33 : decode m_Pro_append.2.1 33 = .ok (.iadd, 1) := by decide +kernel
theorem d_Pro_append_34 : decode m_Pro_append.2.1 34 = .ok (.iload_n 3, 1) := by decide +kernel
theorem d_Pro_append_35 : decode m_Pro_append.2.1 35 = .ok (.iastore, 1) := by decide +kernel
theorem d_Pro_append_36 : decode m_Pro_append.2.1 36 = .ok (.aload_n 0, 1) := by decide +kernel
theorem d_Pro_append_37 : decode m_Pro_append.2.1 37 = .ok (.getfield 15, 3) := by decide +kernel
theorem d_Pro_append_40 : decode m_Pro_append.2.1 40 = .ok (.iload 5, 2) := by decide +kernel
theorem d_Pro_append_42 : decode m_Pro_append.2.1 42 = .ok (.iconst 3, 1) := by decide +kernel
theorem d_Pro_append_43 : decode m_Pro_append.2.1 43 = .ok (.iadd, 1) := by decide +kernel
theorem d_Pro_append_44 : decode m_Pro_append.2.1 44 = .ok (.iload 4, 2) := by decide +kernel
theorem d_Pro_append_46 : decode m_Pro_append.2.1 46 = .ok (.iastore, 1) := by decide +kernel
theorem d_Pro_append_47 : decode m_Pro_append.2.1 47 = .ok (.aload_n 0, 1) := by decide +kernel
theorem d_Pro_append_48 : decode m_Pro_append.2.1 48 = .ok (.dup, 1) := by decide +kernel
theorem d_Pro_append_49 : decode m_Pro_append.2.1 49 = .ok (.getfield 9, 3) := by decide +kernel
theorem d_Pro_append_52 : decode m_Pro_append.2.1 52 = .ok (.iconst 1, 1) := by decide +kernel
theorem d_Pro_append_53 : decode m_Pro_append.2.1 53 = .ok (.iadd, 1) := by decide +kernel
theorem d_Pro_append_54 : decode m_Pro_append.2.1 54 = .ok (.putfield 9, 3) := by decide +kernel
theorem d_Pro_append_57 : decode m_Pro_append.2.1 57 = .ok (.return_, 1) := by decide +kernel
theorem d_Pro_word_0 : decode m_Pro_word.2.1 0 = .ok (.aload_n 0, 1) := by decide +kernel
theorem d_Pro_word_1 : decode m_Pro_word.2.1 1 = .ok (.getfield 15, 3) := by decide +kernel
theorem d_Pro_word_4 : decode m_Pro_word.2.1 4 = .ok (.iload_n 1, 1) := by decide +kernel
theorem d_Pro_word_5 : decode m_Pro_word.2.1 5 = .ok (.iconst 4, 1) := by decide +kernel
theorem d_Pro_word_6 : decode m_Pro_word.2.1 6 = .ok (.imul, 1) := by decide +kernel
theorem d_Pro_word_7 : decode m_Pro_word.2.1 7 = .ok (.iload_n 2, 1) := by decide +kernel
theorem d_Pro_word_8 : decode m_Pro_word.2.1 8 = .ok (.iadd, 1) := by decide +kernel
theorem d_Pro_word_9 : decode m_Pro_word.2.1 9 = .ok (.iaload, 1) := by decide +kernel
theorem d_Pro_word_10 : decode m_Pro_word.2.1 10 = .ok (.ireturn, 1) := by decide +kernel
theorem d_Pro_isSound_0 : decode m_Pro_isSound.2.1 0 = .ok (.iconst 0, 1) := by decide +kernel
theorem d_Pro_isSound_1 : decode m_Pro_isSound.2.1 1 = .ok (.istore_n 2, 1) := by decide +kernel
theorem d_Pro_isSound_2 : decode m_Pro_isSound.2.1 2 = .ok (.iload_n 2, 1) := by decide +kernel
theorem d_Pro_isSound_3 : decode m_Pro_isSound.2.1 3 = .ok (.aload_n 0, 1) := by decide +kernel
theorem d_Pro_isSound_4 : decode m_Pro_isSound.2.1 4 = .ok (.getfield 9, 3) := by decide +kernel
theorem d_Pro_isSound_7 : decode m_Pro_isSound.2.1 7 = .ok (.if_icmp .ge 75, 3) := by decide +kernel
theorem d_Pro_isSound_10 : decode m_Pro_isSound.2.1 10 = .ok (.iconst 1, 1) := by decide +kernel
theorem d_Pro_isSound_11 : decode m_Pro_isSound.2.1 11 = .ok (.istore_n 3, 1) := by decide +kernel
theorem d_Pro_isSound_12 : decode m_Pro_isSound.2.1 12 = .ok (.iload_n 3, 1) := by decide +kernel
theorem d_Pro_isSound_13 : decode m_Pro_isSound.2.1 13 = .ok (.iconst 4, 1) := by decide +kernel
theorem d_Pro_isSound_14 : decode m_Pro_isSound.2.1 14 = .ok (.if_icmp .ge 62, 3) := by decide +kernel
theorem d_Pro_isSound_17 : decode m_Pro_isSound.2.1 17 = .ok (.aload_n 0, 1) := by decide +kernel
theorem d_Pro_isSound_18 : decode m_Pro_isSound.2.1 18 = .ok (.iload_n 2, 1) := by decide +kernel
theorem d_Pro_isSound_19 : decode m_Pro_isSound.2.1 19 = .ok (.iconst 0, 1) := by decide +kernel
theorem d_Pro_isSound_20 : decode m_Pro_isSound.2.1 20 = .ok (.invokevirtual 19, 3) := by decide +kernel
theorem d_Pro_isSound_23 : decode m_Pro_isSound.2.1 23 = .ok (.iload_n 3, 1) := by decide +kernel
theorem d_Pro_isSound_24 : decode m_Pro_isSound.2.1 24 = .ok (.iconst 1, 1) := by decide +kernel
theorem d_Pro_isSound_25 : decode m_Pro_isSound.2.1 25 = .ok (.isub, 1) := by decide +kernel
theorem d_Pro_isSound_26 : decode m_Pro_isSound.2.1 26 = .ok (.invokestatic 23, 3) := by decide +kernel
theorem d_Pro_isSound_29 : decode m_Pro_isSound.2.1 29 = .ok (.istore 4, 2) := by decide +kernel
theorem d_Pro_isSound_31 : decode m_Pro_isSound.2.1 31 = .ok (.iload 4, 2) := by decide +kernel
theorem d_Pro_isSound_33 : decode m_Pro_isSound.2.1 33 = .ok (.iconst 2, 1) := by decide +kernel
theorem d_Pro_isSound_34 : decode m_Pro_isSound.2.1 34 = .ok (.if_icmp .ne 15, 3) := by decide +kernel
theorem d_Pro_isSound_37 : decode m_Pro_isSound.2.1 37 = .ok (.aload_n 0, 1) := by decide +kernel
theorem d_Pro_isSound_38 : decode m_Pro_isSound.2.1 38 = .ok (.iload_n 2, 1) := by decide +kernel
theorem d_Pro_isSound_39 : decode m_Pro_isSound.2.1 39 = .ok (.iload_n 3, 1) := by decide +kernel
theorem d_Pro_isSound_40 : decode m_Pro_isSound.2.1 40 = .ok (.invokevirtual 19, 3) := by decide +kernel
theorem d_Pro_isSound_43 : decode m_Pro_isSound.2.1 43 = .ok (.iload_n 1, 1) := by decide +kernel
theorem d_Pro_isSound_44 : decode m_Pro_isSound.2.1 44 = .ok (.if_icmp .lt 5, 3) := by decide +kernel
theorem d_Pro_isSound_47 : decode m_Pro_isSound.2.1 47 = .ok (.iconst 0, 1) := by decide +kernel
theorem d_Pro_isSound_48 : decode m_Pro_isSound.2.1 48 = .ok (.ireturn, 1) := by decide +kernel
theorem d_Pro_isSound_49 : decode m_Pro_isSound.2.1 49 = .ok (.iload 4, 2) := by decide +kernel
theorem d_Pro_isSound_51 : decode m_Pro_isSound.2.1 51 = .ok (.iconst 3, 1) := by decide +kernel
theorem d_Pro_isSound_52 : decode m_Pro_isSound.2.1 52 = .ok (.if_icmp .ne 18, 3) := by decide +kernel
theorem d_Pro_isSound_55 : decode m_Pro_isSound.2.1 55 = .ok (.aload_n 0, 1) := by decide +kernel
theorem d_Pro_isSound_56 : decode m_Pro_isSound.2.1 56 = .ok (.iload_n 2, 1) := by decide +kernel
theorem d_Pro_isSound_57 : decode m_Pro_isSound.2.1 57 = .ok (.iload_n 3, 1) := by decide +kernel
theorem d_Pro_isSound_58 : decode m_Pro_isSound.2.1 58 = .ok (.invokevirtual 19, 3) := by decide +kernel
theorem d_Pro_isSound_61 : decode m_Pro_isSound.2.1 61 = .ok (.aload_n 0, 1) := by decide +kernel
theorem d_Pro_isSound_62 : decode m_Pro_isSound.2.1 62 = .ok (.getfield 9, 3) := by decide +kernel
theorem d_Pro_isSound_65 : decode m_Pro_isSound.2.1 65 = .ok (.if_icmp .le 5, 3) := by decide +kernel
theorem d_Pro_isSound_68 : decode m_Pro_isSound.2.1 68 = .ok (.iconst 0, 1) := by decide +kernel
theorem d_Pro_isSound_69 : decode m_Pro_isSound.2.1 69 = .ok (.ireturn, 1) := by decide +kernel
theorem d_Pro_isSound_70 : decode m_Pro_isSound.2.1 70 = .ok (.iinc 3 1, 3) := by decide +kernel
theorem d_Pro_isSound_73 : decode m_Pro_isSound.2.1 73 = .ok (.goto (-61), 3) := by decide +kernel
theorem d_Pro_isSound_76 : decode m_Pro_isSound.2.1 76 = .ok (.iinc 2 1, 3) := by decide +kernel
theorem d_Pro_isSound_79 : decode m_Pro_isSound.2.1 79 = .ok (.goto (-77), 3) := by decide +kernel
theorem d_Pro_isSound_82 : decode m_Pro_isSound.2.1 82 = .ok (.iconst 1, 1) := by decide +kernel
theorem d_Pro_isSound_83 : decode m_Pro_isSound.2.1 83 = .ok (.ireturn, 1) := by decide +kernel
theorem d_Res_init_0 : decode m_Res_init.2.1 0 = .ok (.aload_n 0, 1) := by decide +kernel
theorem d_Res_init_1 : decode m_Res_init.2.1 1 = .ok (.invokespecial 3, 3) := by decide +kernel
theorem d_Res_init_4 : decode m_Res_init.2.1 4 = .ok (.aload_n 0, 1) := by decide +kernel
theorem d_Res_init_5 : decode m_Res_init.2.1 5 = .ok (.iconst 0, 1) := by decide +kernel
theorem d_Res_init_6 : decode m_Res_init.2.1 6 = .ok (.putfield 9, 3) := by decide +kernel
theorem d_Res_init_9 : decode m_Res_init.2.1 9 = .ok (.aload_n 0, 1) := by decide +kernel
theorem d_Res_init_10 : decode m_Res_init.2.1 10 = .ok (.bipush 64, 2) := by decide +kernel
theorem d_Res_init_12 : decode m_Res_init.2.1 12 = .ok (.newarray .int, 2) := by decide +kernel
theorem d_Res_init_14 : decode m_Res_init.2.1 14 = .ok (.putfield 15, 3) := by decide +kernel
theorem d_Res_init_17 : decode m_Res_init.2.1 17 = .ok (.aload_n 0, 1) := by decide +kernel
theorem d_Res_init_18 : decode m_Res_init.2.1 18 = .ok (.new 19, 3) := by decide +kernel
theorem d_Res_init_21 : decode m_Res_init.2.1 21 = .ok (.dup, 1) := by decide +kernel
theorem d_Res_init_22 : decode m_Res_init.2.1 22 = .ok (.sipush 256, 3) := by decide +kernel
theorem d_Res_init_25 : decode m_Res_init.2.1 25 = .ok (.invokespecial 21, 3) := by decide +kernel
theorem d_Res_init_28 : decode m_Res_init.2.1 28 = .ok (.putfield 24, 3) := by decide +kernel
theorem d_Res_init_31 : decode m_Res_init.2.1 31 = .ok (.return_, 1) := by decide +kernel
theorem d_Res_take_0 : decode m_Res_take.2.1 0 = .ok (.aload_n 0, 1) := by decide +kernel
theorem d_Res_take_1 : decode m_Res_take.2.1 1 = .ok (.getfield 9, 3) := by decide +kernel
theorem d_Res_take_4 : decode m_Res_take.2.1 4 = .ok (.bipush 64, 2) := by decide +kernel
theorem d_Res_take_6 : decode m_Res_take.2.1 6 = .ok (.if_icmp .ne 5, 3) := by decide +kernel
theorem d_Res_take_9 : decode m_Res_take.2.1 9 = .ok (.iconst 0, 1) := by decide +kernel
theorem d_Res_take_10 : decode m_Res_take.2.1 10 = .ok (.ireturn, 1) := by decide +kernel
theorem d_Res_take_11 : decode m_Res_take.2.1 11 = .ok (.aload_n 0, 1) := by decide +kernel
theorem d_Res_take_12 : decode m_Res_take.2.1 12 = .ok (.getfield 15, 3) := by decide +kernel
theorem d_Res_take_15 : decode m_Res_take.2.1 15 = .ok (.aload_n 0, 1) := by decide +kernel
theorem d_Res_take_16 : decode m_Res_take.2.1 16 = .ok (.getfield 9, 3) := by decide +kernel
theorem d_Res_take_19 : decode m_Res_take.2.1 19 = .ok (.iload_n 3, 1) := by decide +kernel
theorem d_Res_take_20 : decode m_Res_take.2.1 20 = .ok (.iastore, 1) := by decide +kernel
theorem d_Res_take_21 : decode m_Res_take.2.1 21 = .ok (.iconst 0, 1) := by decide +kernel
theorem d_Res_take_22 : decode m_Res_take.2.1 22 = .ok (.istore 4, 2) := by decide +kernel
theorem d_Res_take_24 : decode m_Res_take.2.1 24 = .ok (.iload 4, 2) := by decide +kernel
theorem d_Res_take_26 : decode m_Res_take.2.1 26 = .ok (.iload_n 3, 1) := by decide +kernel
theorem d_Res_take_27 : decode m_Res_take.2.1 27 = .ok (.if_icmp .ge 30, 3) := by decide +kernel
theorem d_Res_take_30 : decode m_Res_take.2.1 30 = .ok (.aload_n 0, 1) := by decide +kernel
theorem d_Res_take_31 : decode m_Res_take.2.1 31 = .ok (.getfield 24, 3) := by decide +kernel
theorem d_Res_take_34 : decode m_Res_take.2.1 34 = .ok (.aload_n 0, 1) := by decide +kernel
theorem d_Res_take_35 : decode m_Res_take.2.1 35 = .ok (.getfield 9, 3) := by decide +kernel
theorem d_Res_take_38 : decode m_Res_take.2.1 38 = .ok (.iconst 4, 1) := by decide +kernel
theorem d_Res_take_39 : decode m_Res_take.2.1 39 = .ok (.imul, 1) := by decide +kernel
theorem d_Res_take_40 : decode m_Res_take.2.1 40 = .ok (.iload 4, 2) := by decide +kernel
theorem d_Res_take_42 : decode m_Res_take.2.1 42 = .ok (.iadd, 1) := by decide +kernel
theorem d_Res_take_43 : decode m_Res_take.2.1 43 = .ok (.aload_n 1, 1) := by decide +kernel
theorem d_Res_take_44 : decode m_Res_take.2.1 44 = .ok (.iload_n 2, 1) := by decide +kernel
theorem d_Res_take_45 : decode m_Res_take.2.1 45 = .ok (.iload 4, 2) := by decide +kernel
theorem d_Res_take_47 : decode m_Res_take.2.1 47 = .ok (.iadd, 1) := by decide +kernel
theorem d_Res_take_48 : decode m_Res_take.2.1 48 = .ok (.invokevirtual 32, 3) := by decide +kernel
theorem d_Res_take_51 : decode m_Res_take.2.1 51 = .ok (.iinc 4 1, 3) := by decide +kernel
theorem d_Res_take_54 : decode m_Res_take.2.1 54 = .ok (.goto (-30), 3) := by decide +kernel
theorem d_Res_take_57 : decode m_Res_take.2.1 57 = .ok (.aload_n 0, 1) := by decide +kernel
theorem d_Res_take_58 : decode m_Res_take.2.1 58 = .ok (.dup, 1) := by decide +kernel
theorem d_Res_take_59 : decode m_Res_take.2.1 59 = .ok (.getfield 9, 3) := by decide +kernel
theorem d_Res_take_62 : decode m_Res_take.2.1 62 = .ok (.iconst 1, 1) := by decide +kernel
theorem d_Res_take_63 : decode m_Res_take.2.1 63 = .ok (.iadd, 1) := by decide +kernel
theorem d_Res_take_64 : decode m_Res_take.2.1 64 = .ok (.putfield 9, 3) := by decide +kernel
theorem d_Res_take_67 : decode m_Res_take.2.1 67 = .ok (.iconst 1, 1) := by decide +kernel
theorem d_Res_take_68 : decode m_Res_take.2.1 68 = .ok (.ireturn, 1) := by decide +kernel
theorem d_Res_hasRow_0 : decode m_Res_hasRow.2.1 0 = .ok (.iload_n 1, 1) := by decide +kernel
theorem d_Res_hasRow_1 : decode m_Res_hasRow.2.1 1 = .ok (.aload_n 0, 1) := by decide +kernel
theorem d_Res_hasRow_2 : decode m_Res_hasRow.2.1 2 = .ok (.getfield 9, 3) := by decide +kernel
theorem d_Res_hasRow_5 : decode m_Res_hasRow.2.1 5 = .ok (.invokestatic 28, 3) := by decide +kernel
theorem d_Res_hasRow_8 : decode m_Res_hasRow.2.1 8 = .ok (.ireturn, 1) := by decide +kernel
end
section
theorem d_Sto_init_0 : decode m_Sto_init.2.1 0 = .ok (.aload_n 0, 1) := by decide +kernel
theorem d_Sto_init_1 : decode m_Sto_init.2.1 1 = .ok (.invokespecial 3, 3) := by decide +kernel
theorem d_Sto_init_4 : decode m_Sto_init.2.1 4 = .ok (.aload_n 0, 1) := by decide +kernel
theorem d_Sto_init_5 : decode m_Sto_init.2.1 5 = .ok (.iconst 3, 1) := by decide +kernel
theorem d_Sto_init_6 : decode m_Sto_init.2.1 6 = .ok (.anewarray 9, 3) := by decide +kernel
theorem d_Sto_init_9 : decode m_Sto_init.2.1 9 = .ok (.putfield 11, 3) := by decide +kernel
theorem d_Sto_init_12 : decode m_Sto_init.2.1 12 = .ok (.aload_n 0, 1) := by decide +kernel
theorem d_Sto_init_13 : decode m_Sto_init.2.1 13 = .ok (.iconst 0, 1) := by decide +kernel
theorem d_Sto_init_14 : decode m_Sto_init.2.1 14 = .ok (.putfield 17, 3) := by decide +kernel
theorem d_Sto_init_17 : decode m_Sto_init.2.1 17 = .ok (.aload_n 0, 1) := by decide +kernel
theorem d_Sto_init_18 : decode m_Sto_init.2.1 18 = .ok (.new 21, 3) := by decide +kernel
theorem d_Sto_init_21 : decode m_Sto_init.2.1 21 = .ok (.dup, 1) := by decide +kernel
theorem d_Sto_init_22 : decode m_Sto_init.2.1 22 = .ok (.sipush 360, 3) := by decide +kernel
theorem d_Sto_init_25 : decode m_Sto_init.2.1 25 = .ok (.invokespecial 23, 3) := by decide +kernel
theorem d_Sto_init_28 : decode m_Sto_init.2.1 28 = .ok (.putfield 26, 3) := by decide +kernel
theorem d_Sto_init_31 : decode m_Sto_init.2.1 31 = .ok (.aload_n 0, 1) := by decide +kernel
theorem d_Sto_init_32 : decode m_Sto_init.2.1 32 = .ok (.bipush 90, 2) := by decide +kernel
theorem d_Sto_init_34 : decode m_Sto_init.2.1 34 = .ok (.newarray .long, 2) := by decide +kernel
theorem d_Sto_init_36 : decode m_Sto_init.2.1 36 = .ok (.putfield 30, 3) := by decide +kernel
theorem d_Sto_init_39 : decode m_Sto_init.2.1 39 = .ok (.aload_n 0, 1) := by decide +kernel
theorem d_Sto_init_40 : decode m_Sto_init.2.1 40 = .ok (.bipush 90, 2) := by decide +kernel
theorem d_Sto_init_42 : decode m_Sto_init.2.1 42 = .ok (.newarray .int, 2) := by decide +kernel
theorem d_Sto_init_44 : decode m_Sto_init.2.1 44 = .ok (.putfield 34, 3) := by decide +kernel
theorem d_Sto_init_47 : decode m_Sto_init.2.1 47 = .ok (.aload_n 0, 1) := by decide +kernel
theorem d_Sto_init_48 : decode m_Sto_init.2.1 48 = .ok (.bipush 90, 2) := by decide +kernel
theorem d_Sto_init_50 : decode m_Sto_init.2.1 50 = .ok (.putfield 38, 3) := by decide +kernel
theorem d_Sto_init_53 : decode m_Sto_init.2.1 53 = .ok (.iconst 0, 1) := by decide +kernel
theorem d_Sto_init_54 : decode m_Sto_init.2.1 54 = .ok (.istore_n 1, 1) := by decide +kernel
theorem d_Sto_init_55 : decode m_Sto_init.2.1 55 = .ok (.iload_n 1, 1) := by decide +kernel
theorem d_Sto_init_56 : decode m_Sto_init.2.1 56 = .ok (.iconst 3, 1) := by decide +kernel
theorem d_Sto_init_57 : decode m_Sto_init.2.1 57 = .ok (.if_icmp .ge 22, 3) := by decide +kernel
theorem d_Sto_init_60 : decode m_Sto_init.2.1 60 = .ok (.aload_n 0, 1) := by decide +kernel
theorem d_Sto_init_61 : decode m_Sto_init.2.1 61 = .ok (.getfield 11, 3) := by decide +kernel
theorem d_Sto_init_64 : decode m_Sto_init.2.1 64 = .ok (.iload_n 1, 1) := by decide +kernel
theorem d_Sto_init_65 : decode m_Sto_init.2.1 65 = .ok (.new 9, 3) := by decide +kernel
theorem d_Sto_init_68 : decode m_Sto_init.2.1 68 = .ok (.dup, 1) := by decide +kernel
theorem d_Sto_init_69 : decode m_Sto_init.2.1 69 = .ok (.invokespecial 41, 3) := by decide +kernel
theorem d_Sto_init_72 : decode m_Sto_init.2.1 72 = .ok (.aastore, 1) := by decide +kernel
theorem d_Sto_init_73 : decode m_Sto_init.2.1 73 = .ok (.iinc 1 1, 3) := by decide +kernel
theorem d_Sto_init_76 : decode m_Sto_init.2.1 76 = .ok (.goto (-21), 3) := by decide +kernel
theorem d_Sto_init_79 : decode m_Sto_init.2.1 79 = .ok (.iconst 0, 1) := by decide +kernel
theorem d_Sto_init_80 : decode m_Sto_init.2.1 80 = .ok (.istore_n 1, 1) := by decide +kernel
theorem d_Sto_init_81 : decode m_Sto_init.2.1 81 = .ok (.iload_n 1, 1) := by decide +kernel
theorem d_Sto_init_82 : decode m_Sto_init.2.1 82 = .ok (.bipush 90, 2) := by decide +kernel
theorem d_Sto_init_84 : decode m_Sto_init.2.1 84 = .ok (.if_icmp .ge 16, 3) := by decide +kernel
theorem d_Sto_init_87 : decode m_Sto_init.2.1 87 = .ok (.aload_n 0, 1) := by decide +kernel
theorem d_Sto_init_88 : decode m_Sto_init.2.1 88 = .ok (.getfield 34, 3) := by decide +kernel
theorem d_Sto_init_91 : decode m_Sto_init.2.1 91 = .ok (.iload_n 1, 1) := by decide +kernel
theorem d_Sto_init_92 : decode m_Sto_init.2.1 92 = .ok (.iload_n 1, 1) := by decide +kernel
theorem d_Sto_init_93 : decode m_Sto_init.2.1 93 = .ok (.iastore, 1) := by decide +kernel
theorem d_Sto_init_94 : decode m_Sto_init.2.1 94 = .ok (.iinc 1 1, 3) := by decide +kernel
theorem d_Sto_init_97 : decode m_Sto_init.2.1 97 = .ok (.goto (-16), 3) := by decide +kernel
theorem d_Sto_init_100 : decode m_Sto_init.2.1 100 = .ok (.return_, 1) := by decide +kernel
theorem d_Sto_hasTable_0 : decode m_Sto_hasTable.2.1 0 = .ok (.iload_n 1, 1) := by decide +kernel
theorem d_Sto_hasTable_1 : decode m_Sto_hasTable.2.1 1 = .ok (.aload_n 0, 1) := by decide +kernel
theorem d_Sto_hasTable_2 : decode m_Sto_hasTable.2.1 2 = .ok (.getfield 17, 3) := by decide +kernel
theorem d_Sto_hasTable_5 : decode m_Sto_hasTable.2.1 5 = .ok (.invokestatic 45, 3) := by decide +kernel
theorem d_Sto_hasTable_8 : decode m_Sto_hasTable.2.1 8 = .ok (.ireturn, 1) := by decide +kernel
theorem d_Sto_hasColumn_0 : decode m_Sto_hasColumn.2.1 0 = .ok (.aload_n 0, 1) := by decide +kernel
theorem d_Sto_hasColumn_1 : decode m_Sto_hasColumn.2.1 1 = .ok (.iload_n 1, 1) := by decide +kernel
theorem d_Sto_hasColumn_2 : decode m_Sto_hasColumn.2.1 2 = .ok (.invokevirtual 49, 3) := by decide +kernel
theorem d_Sto_hasColumn_5 : decode m_Sto_hasColumn.2.1 5 = .ok (.ifCond .eq 23, 3) := by decide +kernel
theorem d_Sto_hasColumn_8 : decode m_Sto_hasColumn.2.1 8 = .ok (.iload_n 2, 1) := by decide +kernel
theorem d_Sto_hasColumn_9 : decode m_Sto_hasColumn.2.1 9 = .ok (.aload_n 0, 1) := by decide +kernel
theorem d_Sto_hasColumn_10 : decode m_Sto_hasColumn.2.1 10 = .ok (.getfield 11, 3) := by decide +kernel
theorem d_Sto_hasColumn_13 : decode m_Sto_hasColumn.2.1 13 = .ok (.iload_n 1, 1) := by decide +kernel
theorem d_Sto_hasColumn_14 : decode m_Sto_hasColumn.2.1 14 = .ok (.aaload, 1) := by decide +kernel
theorem d_Sto_hasColumn_15 : decode m_Sto_hasColumn.2.1 15 = .ok (.getfield 42, 3) := by decide +kernel
theorem d_Sto_hasColumn_18 : decode m_Sto_hasColumn.2.1 18 = .ok (.invokestatic 45, 3) := by decide +kernel
theorem d_Sto_hasColumn_21 : decode m_Sto_hasColumn.2.1 21 = .ok (.ifCond .eq 7, 3) := by decide +kernel
theorem d_Sto_hasColumn_24 : decode m_Sto_hasColumn.2.1 24 = .ok (.iconst 1, 1) := by decide +kernel
theorem d_Sto_hasColumn_25 : decode m_Sto_hasColumn.2.1 25 = .ok (.goto 4, 3) := by decide +kernel
theorem d_Sto_hasColumn_28 : decode m_Sto_hasColumn.2.1 28 = .ok (.iconst 0, 1) := by decide +kernel
theorem d_Sto_hasColumn_29 : decode m_Sto_hasColumn.2.1 29 = .ok (.ireturn, 1) := by decide +kernel
theorem d_Sto_begin_0 : decode m_Sto_begin.2.1 0 = .ok (.aload_n 0, 1) := by decide +kernel
theorem d_Sto_begin_1 : decode m_Sto_begin.2.1 1 = .ok (.getfield 17, 3) := by decide +kernel
theorem d_Sto_begin_4 : decode m_Sto_begin.2.1 4 = .ok (.istore_n 2, 1) := by decide +kernel
theorem d_Sto_begin_5 : decode m_Sto_begin.2.1 5 = .ok (.aload_n 0, 1) := by decide +kernel
theorem d_Sto_begin_6 : decode m_Sto_begin.2.1 6 = .ok (.getfield 11, 3) := by decide +kernel
theorem d_Sto_begin_9 : decode m_Sto_begin.2.1 9 = .ok (.iload_n 2, 1) := by decide +kernel
theorem d_Sto_begin_10 : decode m_Sto_begin.2.1 10 = .ok (.aaload, 1) := by decide +kernel
theorem d_Sto_begin_11 : decode m_Sto_begin.2.1 11 = .ok (.iload_n 1, 1) := by decide +kernel
theorem d_Sto_begin_12 : decode m_Sto_begin.2.1 12 = .ok (.putfield 42, 3) := by decide +kernel
theorem d_Sto_begin_15 : decode m_Sto_begin.2.1 15 = .ok (.aload_n 0, 1) := by decide +kernel
theorem d_Sto_begin_16 : decode m_Sto_begin.2.1 16 = .ok (.dup, 1) := by decide +kernel
theorem d_Sto_begin_17 : decode m_Sto_begin.2.1 17 = .ok (.getfield 17, 3) := by decide +kernel
theorem d_Sto_begin_20 : decode m_Sto_begin.2.1 20 = .ok (.iconst 1, 1) := by decide +kernel
theorem d_Sto_begin_21 : decode m_Sto_begin.2.1 21 = .ok (.iadd, 1) := by decide +kernel
theorem d_Sto_begin_22 : decode m_Sto_begin.2.1 22 = .ok (.putfield 17, 3) := by decide +kernel
theorem d_Sto_begin_25 : decode m_Sto_begin.2.1 25 = .ok (.iload_n 2, 1) := by decide +kernel
theorem d_Sto_begin_26 : decode m_Sto_begin.2.1 26 = .ok (.ireturn, 1) := by decide +kernel
theorem d_Sto_isFull_0 : decode m_Sto_isFull.2.1 0 = .ok (.aload_n 0, 1) := by decide +kernel
theorem d_Sto_isFull_1 : decode m_Sto_isFull.2.1 1 = .ok (.getfield 38, 3) := by decide +kernel
theorem d_Sto_isFull_4 : decode m_Sto_isFull.2.1 4 = .ok (.ifCond .ne 7, 3) := by decide +kernel
theorem d_Sto_isFull_7 : decode m_Sto_isFull.2.1 7 = .ok (.iconst 1, 1) := by decide +kernel
theorem d_Sto_isFull_8 : decode m_Sto_isFull.2.1 8 = .ok (.goto 4, 3) := by decide +kernel
theorem d_Sto_isFull_11 : decode m_Sto_isFull.2.1 11 = .ok (.iconst 0, 1) := by decide +kernel
theorem d_Sto_isFull_12 : decode m_Sto_isFull.2.1 12 = .ok (.ireturn, 1) := by decide +kernel
theorem d_Sto_bring_0 : decode m_Sto_bring.2.1 0 = .ok (.aload_n 0, 1) := by decide +kernel
theorem d_Sto_bring_1 : decode m_Sto_bring.2.1 1 = .ok (.iload_n 1, 1) := by decide +kernel
theorem d_Sto_bring_2 : decode m_Sto_bring.2.1 2 = .ok (.lload_n 2, 1) := by decide +kernel
theorem d_Sto_bring_3 : decode m_Sto_bring.2.1 3 = .ok (.iconst 0, 1) := by decide +kernel
theorem d_Sto_bring_4 : decode m_Sto_bring.2.1 4 = .ok (.invokevirtual 59, 3) := by decide +kernel
theorem d_Sto_bring_7 : decode m_Sto_bring.2.1 7 = .ok (.istore 6, 2) := by decide +kernel
theorem d_Sto_bring_9 : decode m_Sto_bring.2.1 9 = .ok (.aload_n 0, 1) := by decide +kernel
theorem d_Sto_bring_10 : decode m_Sto_bring.2.1 10 = .ok (.invokevirtual 67, 3) := by decide +kernel
theorem d_Sto_bring_13 : decode m_Sto_bring.2.1 13 = .ok (.ifCond .ne 14, 3) := by decide +kernel
theorem d_Sto_bring_16 : decode m_Sto_bring.2.1 16 = .ok (.aload_n 0, 1) := by decide +kernel
theorem d_Sto_bring_17 : decode m_Sto_bring.2.1 17 = .ok (.iload_n 1, 1) := by decide +kernel
theorem d_Sto_bring_18 : decode m_Sto_bring.2.1 18 = .ok (.iload 6, 2) := by decide +kernel
theorem d_Sto_bring_20 : decode m_Sto_bring.2.1 20 = .ok (.lload_n 2, 1) := by decide +kernel
theorem d_Sto_bring_21 : decode m_Sto_bring.2.1 21 = .ok (.invokevirtual 63, 3) := by decide +kernel
theorem d_Sto_bring_24 : decode m_Sto_bring.2.1 24 = .ok (.ifCond .eq 5, 3) := by decide +kernel
theorem d_Sto_bring_27 : decode m_Sto_bring.2.1 27 = .ok (.iconst 0, 1) := by decide +kernel
theorem d_Sto_bring_28 : decode m_Sto_bring.2.1 28 = .ok (.ireturn, 1) := by decide +kernel
theorem d_Sto_bring_29 : decode m_Sto_bring.2.1 29 = .ok (.aload_n 0, 1) := by decide +kernel
theorem d_Sto_bring_30 : decode m_Sto_bring.2.1 30 = .ok (.dup, 1) := by decide +kernel
theorem d_Sto_bring_31 : decode m_Sto_bring.2.1 31 = .ok (.getfield 38, 3) := by decide +kernel
theorem d_Sto_bring_34 : decode m_Sto_bring.2.1 34 = .ok (.iconst 1, 1) := by decide +kernel
theorem d_Sto_bring_35 : decode m_Sto_bring.2.1 35 = .ok (.isub, 1) := by decide +kernel
theorem d_Sto_bring_36 : decode m_Sto_bring.2.1 36 = .ok (.putfield 38, 3) := by decide +kernel
theorem d_Sto_bring_39 : decode m_Sto_bring.2.1 39 = .ok (.aload_n 0, 1) := by decide +kernel
theorem d_Sto_bring_40 : decode m_Sto_bring.2.1 40 = .ok (.getfield 34, 3) := by decide +kernel
theorem d_Sto_bring_43 : decode m_Sto_bring.2.1 43 = .ok (.aload_n 0, 1) := by decide +kernel
theorem d_Sto_bring_44 : decode m_Sto_bring.2.1 44 = .ok (.getfield 38, 3) := by decide +kernel
theorem d_Sto_bring_47 : decode m_Sto_bring.2.1 47 = .ok (.iaload, 1) := by decide +kernel
theorem d_Sto_bring_48 : decode m_Sto_bring.2.1 48 = .ok (.istore 7, 2) := by decide +kernel
theorem d_Sto_bring_50 : decode m_Sto_bring.2.1 50 = .ok (.aload_n 0, 1) := by decide +kernel
theorem d_Sto_bring_51 : decode m_Sto_bring.2.1 51 = .ok (.getfield 30, 3) := by decide +kernel
theorem d_Sto_bring_54 : decode m_Sto_bring.2.1 54 = .ok (.iload 7, 2) := by decide +kernel
theorem d_Sto_bring_56 : decode m_Sto_bring.2.1 56 = .ok (.lload_n 2, 1) := by decide +kernel
theorem d_Sto_bring_57 : decode m_Sto_bring.2.1 57 = .ok (.lastore, 1) := by decide +kernel
theorem d_Sto_bring_58 : decode m_Sto_bring.2.1 58 = .ok (.iconst 0, 1) := by decide +kernel
theorem d_Sto_bring_59 : decode m_Sto_bring.2.1 59 = .ok (.istore 8, 2) := by decide +kernel
theorem d_Sto_bring_61 : decode m_Sto_bring.2.1 61 = .ok (.iload 8, 2) := by decide +kernel
theorem d_Sto_bring_63 : decode m_Sto_bring.2.1 63 = .ok (.aload_n 0, 1) := by decide +kernel
theorem d_Sto_bring_64 : decode m_Sto_bring.2.1 64 = .ok (.getfield 11, 3) := by decide +kernel
theorem d_Sto_bring_67 : decode m_Sto_bring.2.1 67 = .ok (.iload_n 1, 1) := by decide +kernel
theorem d_Sto_bring_68 : decode m_Sto_bring.2.1 68 = .ok (.aaload, 1) := by decide +kernel
theorem d_Sto_bring_69 : decode m_Sto_bring.2.1 69 = .ok (.getfield 42, 3) := by decide +kernel
theorem d_Sto_bring_72 : decode m_Sto_bring.2.1 72 = .ok (.if_icmp .ge 30, 3) := by decide +kernel
theorem d_Sto_bring_75 : decode m_Sto_bring.2.1 75 = .ok (.aload_n 0, 1) := by decide +kernel
theorem d_Sto_bring_76 : decode m_Sto_bring.2.1 76 = .ok (.getfield 26, 3) := by decide +kernel
theorem d_Sto_bring_79 : decode m_Sto_bring.2.1 79 = .ok (.iload 7, 2) := by decide +kernel
theorem d_Sto_bring_81 : decode m_Sto_bring.2.1 81 = .ok (.iconst 4, 1) := by decide +kernel
theorem d_Sto_bring_82 : decode m_Sto_bring.2.1 82 = .ok (.imul, 1) := by decide +kernel
theorem d_Sto_bring_83 : decode m_Sto_bring.2.1 83 = .ok (.iload 8, 2) := by decide +kernel
theorem d_Sto_bring_85 : decode m_Sto_bring.2.1 85 = .ok (.iadd, 1) := by decide +kernel
theorem d_Sto_bring_86 : decode m_Sto_bring.2.1 86 = .ok (.aload 4, 2) := by decide +kernel
theorem d_Sto_bring_88 : decode m_Sto_bring.2.1 88 = .ok (.iload 5, 2) := by decide +kernel
theorem d_Sto_bring_90 : decode m_Sto_bring.2.1 90 = .ok (.iload 8, 2) := by decide +kernel
theorem d_Sto_bring_92 : decode m_Sto_bring.2.1 92 = .ok (.iadd, 1) := by decide +kernel
theorem d_Sto_bring_93 : decode m_Sto_bring.2.1 93 = .ok (.invokevirtual 71, 3) := by decide +kernel
theorem d_Sto_bring_96 : decode m_Sto_bring.2.1 96 = .ok (.iinc 8 1, 3) := by decide +kernel
theorem d_Sto_bring_99 : decode m_Sto_bring.2.1 99 = .ok (.goto (-38), 3) := by decide +kernel
theorem d_Sto_bring_102 : decode m_Sto_bring.2.1 102 = .ok (.aload_n 0, 1) := by decide +kernel
theorem d_Sto_bring_103 : decode m_Sto_bring.2.1 103 = .ok (.getfield 11, 3) := by decide +kernel
theorem d_Sto_bring_106 : decode m_Sto_bring.2.1 106 = .ok (.iload_n 1, 1) := by decide +kernel
theorem d_Sto_bring_107 : decode m_Sto_bring.2.1 107 = .ok (.aaload, 1) := by decide +kernel
theorem d_Sto_bring_108 : decode m_Sto_bring.2.1 108 = .ok (.iload 6, 2) := by decide +kernel
theorem d_Sto_bring_110 : decode m_Sto_bring.2.1 110 = .ok (.iload 7, 2) := by decide +kernel
theorem d_Sto_bring_112 : decode m_Sto_bring.2.1 112 = .ok (.invokevirtual 75, 3) := by decide +kernel
theorem d_Sto_bring_115 : decode m_Sto_bring.2.1 115 = .ok (.iconst 1, 1) := by decide +kernel
theorem d_Sto_bring_116 : decode m_Sto_bring.2.1 116 = .ok (.ireturn, 1) := by decide +kernel
theorem d_Sto_rowsBelow_0 : decode m_Sto_rowsBelow.2.1 0 = .ok (.aload_n 0, 1) := by decide +kernel
theorem d_Sto_rowsBelow_1 : decode m_Sto_rowsBelow.2.1 1 = .ok (.getfield 11, 3) := by decide +kernel
theorem d_Sto_rowsBelow_4 : decode m_Sto_rowsBelow.2.1 4 = .ok (.iload_n 1, 1) := by decide +kernel
theorem d_Sto_rowsBelow_5 : decode m_Sto_rowsBelow.2.1 5 = .ok (.aaload, 1) := by decide +kernel
theorem d_Sto_rowsBelow_6 : decode m_Sto_rowsBelow.2.1 6 = .ok (.astore 5, 2) := by decide +kernel
theorem d_Sto_rowsBelow_8 : decode m_Sto_rowsBelow.2.1 8 = .ok (.iconst 0, 1) := by decide +kernel
theorem d_Sto_rowsBelow_9 : decode m_Sto_rowsBelow.2.1 9 = .ok (.istore 6, 2) := by decide +kernel
theorem d_Sto_rowsBelow_11 : decode m_Sto_rowsBelow.2.1 11 = .ok (.bipush 64, 2) := by decide +kernel
theorem d_Sto_rowsBelow_13 : decode m_Sto_rowsBelow.2.1 13 = .ok (.istore 7, 2) := by decide +kernel
theorem d_Sto_rowsBelow_15 : decode m_Sto_rowsBelow.2.1 15 = .ok (.iload 7, 2) := by decide +kernel
theorem d_Sto_rowsBelow_17 : decode m_Sto_rowsBelow.2.1 17 = .ok (.ifCond .le 72, 3) := by decide +kernel
theorem d_Sto_rowsBelow_20 : decode m_Sto_rowsBelow.2.1 20 = .ok (.iload 6, 2) := by decide +kernel
theorem d_Sto_rowsBelow_22 : decode m_Sto_rowsBelow.2.1 22 = .ok (.iload 7, 2) := by decide +kernel
theorem d_Sto_rowsBelow_24 : decode m_Sto_rowsBelow.2.1 24 = .ok (.iadd, 1) := by decide +kernel
theorem d_Sto_rowsBelow_25 : decode m_Sto_rowsBelow.2.1 25 = .ok (.iconst 1, 1) := by decide +kernel
theorem d_Sto_rowsBelow_26 : decode m_Sto_rowsBelow.2.1 26 = .ok (.isub, 1) := by decide +kernel
theorem d_Sto_rowsBelow_27 : decode m_Sto_rowsBelow.2.1 27 = .ok (.istore 8, 2) := by decide +kernel
theorem d_Sto_rowsBelow_29 : decode m_Sto_rowsBelow.2.1 29 = .ok (.iload 8, 2) := by decide +kernel
theorem d_Sto_rowsBelow_31 : decode m_Sto_rowsBelow.2.1 31 = .ok (.aload 5, 2) := by decide +kernel
theorem d_Sto_rowsBelow_33 : decode m_Sto_rowsBelow.2.1 33 = .ok (.getfield 53, 3) := by decide +kernel
theorem d_Sto_rowsBelow_36 : decode m_Sto_rowsBelow.2.1 36 = .ok (.if_icmp .ge 44, 3) := by decide +kernel
theorem d_Sto_rowsBelow_39 : decode m_Sto_rowsBelow.2.1 39 = .ok (.aload_n 0, 1) := by decide +kernel
theorem d_Sto_rowsBelow_40 : decode m_Sto_rowsBelow.2.1 40 = .ok (.getfield 30, 3) := by decide +kernel
theorem d_Sto_rowsBelow_43 : decode m_Sto_rowsBelow.2.1 43 = .ok (.aload 5, 2) := by decide +kernel
theorem d_Sto_rowsBelow_45 : decode m_Sto_rowsBelow.2.1 45 = .ok (.getfield 56, 3) := by decide +kernel
theorem d_Sto_rowsBelow_48 : decode m_Sto_rowsBelow.2.1 48 = .ok (.iload 8, 2) := by decide +kernel
theorem d_Sto_rowsBelow_50 : decode m_Sto_rowsBelow.2.1 50 = .ok (.iaload, 1) := by decide +kernel
theorem d_Sto_rowsBelow_51 : decode m_Sto_rowsBelow.2.1 51 = .ok (.laload, 1) := by decide +kernel
theorem d_Sto_rowsBelow_52 : decode m_Sto_rowsBelow.2.1 52 = .ok (.lstore 9, 2) := by decide +kernel
theorem d_Sto_rowsBelow_54 : decode m_Sto_rowsBelow.2.1 54 = .ok (.lload 9, 2) := by decide +kernel
theorem d_Sto_rowsBelow_56 : decode m_Sto_rowsBelow.2.1 56 = .ok (.lload_n 2, 1) := by decide +kernel
theorem d_Sto_rowsBelow_57 : decode m_Sto_rowsBelow.2.1 57 = .ok (.lcmp, 1) := by decide +kernel
theorem d_Sto_rowsBelow_58 : decode m_Sto_rowsBelow.2.1 58 = .ok (.ifCond .lt 15, 3) := by decide +kernel
theorem d_Sto_rowsBelow_61 : decode m_Sto_rowsBelow.2.1 61 = .ok (.iload 4, 2) := by decide +kernel
theorem d_Sto_rowsBelow_63 : decode m_Sto_rowsBelow.2.1 63 = .ok (.ifCond .eq 17, 3) := by decide +kernel
theorem d_Sto_rowsBelow_66 : decode m_Sto_rowsBelow.2.1 66 = .ok (.lload 9, 2) := by decide +kernel
theorem d_Sto_rowsBelow_68 : decode m_Sto_rowsBelow.2.1 68 = .ok (.lload_n 2, 1) := by decide +kernel
theorem d_Sto_rowsBelow_69 : decode m_Sto_rowsBelow.2.1 69 = .ok (.lcmp, 1) := by decide +kernel
theorem d_Sto_rowsBelow_70 : decode m_Sto_rowsBelow.2.1 70 = .ok (.ifCond .ne 10, 3) := by decide +kernel
theorem d_Sto_rowsBelow_73 : decode m_Sto_rowsBelow.2.1 73 = .ok (.iload 6, 2) := by decide +kernel
theorem d_Sto_rowsBelow_75 : decode m_Sto_rowsBelow.2.1 75 = .ok (.iload 7, 2) := by decide +kernel
theorem d_Sto_rowsBelow_77 : decode m_Sto_rowsBelow.2.1 77 = .ok (.iadd, 1) := by decide +kernel
theorem d_Sto_rowsBelow_78 : decode m_Sto_rowsBelow.2.1 78 = .ok (.istore 6, 2) := by decide +kernel
theorem d_Sto_rowsBelow_80 : decode m_Sto_rowsBelow.2.1 80 = .ok (.iload 7, 2) := by decide +kernel
theorem d_Sto_rowsBelow_82 : decode m_Sto_rowsBelow.2.1 82 = .ok (.iconst 2, 1) := by decide +kernel
theorem d_Sto_rowsBelow_83 : decode m_Sto_rowsBelow.2.1 83 = .ok (.idiv, 1) := by decide +kernel
theorem d_Sto_rowsBelow_84 : decode m_Sto_rowsBelow.2.1 84 = .ok (.istore 7, 2) := by decide +kernel
theorem d_Sto_rowsBelow_86 : decode m_Sto_rowsBelow.2.1 86 = .ok (.goto (-71), 3) := by decide +kernel
theorem d_Sto_rowsBelow_89 : decode m_Sto_rowsBelow.2.1 89 = .ok (.iload 6, 2) := by decide +kernel
theorem d_Sto_rowsBelow_91 : decode m_Sto_rowsBelow.2.1 91 = .ok (.ireturn, 1) := by decide +kernel
theorem d_Sto_isAt_0 : decode m_Sto_isAt.2.1 0 = .ok (.aload_n 0, 1) := by decide +kernel
theorem d_Sto_isAt_1 : decode m_Sto_isAt.2.1 1 = .ok (.getfield 11, 3) := by decide +kernel
theorem d_Sto_isAt_4 : decode m_Sto_isAt.2.1 4 = .ok (.iload_n 1, 1) := by decide +kernel
theorem d_Sto_isAt_5 : decode m_Sto_isAt.2.1 5 = .ok (.aaload, 1) := by decide +kernel
theorem d_Sto_isAt_6 : decode m_Sto_isAt.2.1 6 = .ok (.astore 5, 2) := by decide +kernel
theorem d_Sto_isAt_8 : decode m_Sto_isAt.2.1 8 = .ok (.iload_n 2, 1) := by decide +kernel
theorem d_Sto_isAt_9 : decode m_Sto_isAt.2.1 9 = .ok (.aload 5, 2) := by decide +kernel
theorem d_Sto_isAt_11 : decode m_Sto_isAt.2.1 11 = .ok (.getfield 53, 3) := by decide +kernel
theorem d_Sto_isAt_14 : decode m_Sto_isAt.2.1 14 = .ok (.if_icmp .ge 24, 3) := by decide +kernel
theorem d_Sto_isAt_17 : decode m_Sto_isAt.2.1 17 = .ok (.aload_n 0, 1) := by decide +kernel
theorem d_Sto_isAt_18 : decode m_Sto_isAt.2.1 18 = .ok (.getfield 30, 3) := by decide +kernel
theorem d_Sto_isAt_21 : decode m_Sto_isAt.2.1 21 = .ok (.aload 5, 2) := by decide +kernel
theorem d_Sto_isAt_23 : decode m_Sto_isAt.2.1 23 = .ok (.getfield 56, 3) := by decide +kernel
theorem d_Sto_isAt_26 : decode m_Sto_isAt.2.1 26 = .ok (.iload_n 2, 1) := by decide +kernel
theorem d_Sto_isAt_27 : decode m_Sto_isAt.2.1 27 = .ok (.iaload, 1) := by decide +kernel
theorem d_Sto_isAt_28 : decode m_Sto_isAt.2.1 28 = .ok (.laload, 1) := by decide +kernel
theorem d_Sto_isAt_29 : decode m_Sto_isAt.2.1 29 = .ok (.lload_n 3, 1) := by decide +kernel
theorem d_Sto_isAt_30 : decode m_Sto_isAt.2.1 30 = .ok (.lcmp, 1) := by decide +kernel
theorem d_Sto_isAt_31 : decode m_Sto_isAt.2.1 31 = .ok (.ifCond .ne 7, 3) := by decide +kernel
theorem d_Sto_isAt_34 : decode m_Sto_isAt.2.1 34 = .ok (.iconst 1, 1) := by decide +kernel
theorem d_Sto_isAt_35 : decode m_Sto_isAt.2.1 35 = .ok (.goto 4, 3) := by decide +kernel
theorem d_Sto_isAt_38 : decode m_Sto_isAt.2.1 38 = .ok (.iconst 0, 1) := by decide +kernel
theorem d_Sto_isAt_39 : decode m_Sto_isAt.2.1 39 = .ok (.ireturn, 1) := by decide +kernel
theorem d_Sto_drop_0 : decode m_Sto_drop.2.1 0 = .ok (.aload_n 0, 1) := by decide +kernel
theorem d_Sto_drop_1 : decode m_Sto_drop.2.1 1 = .ok (.iload_n 1, 1) := by decide +kernel
theorem d_Sto_drop_2 : decode m_Sto_drop.2.1 2 = .ok (.lload_n 2, 1) := by decide +kernel
theorem d_Sto_drop_3 : decode m_Sto_drop.2.1 3 = .ok (.iconst 0, 1) := by decide +kernel
theorem d_Sto_drop_4 : decode m_Sto_drop.2.1 4 = .ok (.invokevirtual 59, 3) := by decide +kernel
theorem d_Sto_drop_7 : decode m_Sto_drop.2.1 7 = .ok (.istore 4, 2) := by decide +kernel
theorem d_Sto_drop_9 : decode m_Sto_drop.2.1 9 = .ok (.aload_n 0, 1) := by decide +kernel
theorem d_Sto_drop_10 : decode m_Sto_drop.2.1 10 = .ok (.iload_n 1, 1) := by decide +kernel
theorem d_Sto_drop_11 : decode m_Sto_drop.2.1 11 = .ok (.iload 4, 2) := by decide +kernel
theorem d_Sto_drop_13 : decode m_Sto_drop.2.1 13 = .ok (.lload_n 2, 1) := by decide +kernel
theorem d_Sto_drop_14 : decode m_Sto_drop.2.1 14 = .ok (.invokevirtual 63, 3) := by decide +kernel
theorem d_Sto_drop_17 : decode m_Sto_drop.2.1 17 = .ok (.ifCond .ne 5, 3) := by decide +kernel
theorem d_Sto_drop_20 : decode m_Sto_drop.2.1 20 = .ok (.iconst 0, 1) := by decide +kernel
theorem d_Sto_drop_21 : decode m_Sto_drop.2.1 21 = .ok (.ireturn, 1) := by decide +kernel
theorem d_Sto_drop_22 : decode m_Sto_drop.2.1 22 = .ok (.aload_n 0, 1) := by decide +kernel
theorem d_Sto_drop_23 : decode m_Sto_drop.2.1 23 = .ok (.getfield 34, 3) := by decide +kernel
theorem d_Sto_drop_26 : decode m_Sto_drop.2.1 26 = .ok (.aload_n 0, 1) := by decide +kernel
theorem d_Sto_drop_27 : decode m_Sto_drop.2.1 27 = .ok (.getfield 38, 3) := by decide +kernel
theorem d_Sto_drop_30 : decode m_Sto_drop.2.1 30 = .ok (.aload_n 0, 1) := by decide +kernel
theorem d_Sto_drop_31 : decode m_Sto_drop.2.1 31 = .ok (.getfield 11, 3) := by decide +kernel
theorem d_Sto_drop_34 : decode m_Sto_drop.2.1 34 = .ok (.iload_n 1, 1) := by decide +kernel
theorem d_Sto_drop_35 : decode m_Sto_drop.2.1 35 = .ok (.aaload, 1) := by decide +kernel
theorem d_Sto_drop_36 : decode m_Sto_drop.2.1 36 = .ok (.getfield 56, 3) := by decide +kernel
theorem d_Sto_drop_39 : decode m_Sto_drop.2.1 39 = .ok (.iload 4, 2) := by decide +kernel
theorem d_Sto_drop_41 : decode m_Sto_drop.2.1 41 = .ok (.iaload, 1) := by decide +kernel
theorem d_Sto_drop_42 : decode m_Sto_drop.2.1 42 = .ok (.iastore, 1) := by decide +kernel
theorem d_Sto_drop_43 : decode m_Sto_drop.2.1 43 = .ok (.aload_n 0, 1) := by decide +kernel
theorem d_Sto_drop_44 : decode m_Sto_drop.2.1 44 = .ok (.dup, 1) := by decide +kernel
theorem d_Sto_drop_45 : decode m_Sto_drop.2.1 45 = .ok (.getfield 38, 3) := by decide +kernel
theorem d_Sto_drop_48 : decode m_Sto_drop.2.1 48 = .ok (.iconst 1, 1) := by decide +kernel
theorem d_Sto_drop_49 : decode m_Sto_drop.2.1 49 = .ok (.iadd, 1) := by decide +kernel
theorem d_Sto_drop_50 : decode m_Sto_drop.2.1 50 = .ok (.putfield 38, 3) := by decide +kernel
theorem d_Sto_drop_53 : decode m_Sto_drop.2.1 53 = .ok (.aload_n 0, 1) := by decide +kernel
theorem d_Sto_drop_54 : decode m_Sto_drop.2.1 54 = .ok (.getfield 11, 3) := by decide +kernel
theorem d_Sto_drop_57 : decode m_Sto_drop.2.1 57 = .ok (.iload_n 1, 1) := by decide +kernel
theorem d_Sto_drop_58 : decode m_Sto_drop.2.1 58 = .ok (.aaload, 1) := by decide +kernel
theorem d_Sto_drop_59 : decode m_Sto_drop.2.1 59 = .ok (.iload 4, 2) := by decide +kernel
theorem d_Sto_drop_61 : decode m_Sto_drop.2.1 61 = .ok (.invokevirtual 79, 3) := by decide +kernel
theorem d_Sto_drop_64 : decode m_Sto_drop.2.1 64 = .ok (.iconst 1, 1) := by decide +kernel
theorem d_Sto_drop_65 : decode m_Sto_drop.2.1 65 = .ok (.ireturn, 1) := by decide +kernel
theorem d_Sto_hasPlace_0 : decode m_Sto_hasPlace.2.1 0 = .ok (.iload_n 2, 1) := by decide +kernel
theorem d_Sto_hasPlace_1 : decode m_Sto_hasPlace.2.1 1 = .ok (.aload_n 0, 1) := by decide +kernel
theorem d_Sto_hasPlace_2 : decode m_Sto_hasPlace.2.1 2 = .ok (.getfield 11, 3) := by decide +kernel
theorem d_Sto_hasPlace_5 : decode m_Sto_hasPlace.2.1 5 = .ok (.iload_n 1, 1) := by decide +kernel
theorem d_Sto_hasPlace_6 : decode m_Sto_hasPlace.2.1 6 = .ok (.aaload, 1) := by decide +kernel
theorem d_Sto_hasPlace_7 : decode m_Sto_hasPlace.2.1 7 = .ok (.getfield 53, 3) := by decide +kernel
theorem d_Sto_hasPlace_10 : decode m_Sto_hasPlace.2.1 10 = .ok (.if_icmp .ge 7, 3) := by decide +kernel
theorem d_Sto_hasPlace_13 : decode m_Sto_hasPlace.2.1 13 = .ok (.iconst 1, 1) := by decide +kernel
theorem d_Sto_hasPlace_14 : decode m_Sto_hasPlace.2.1 14 = .ok (.goto 4, 3) := by decide +kernel
theorem d_Sto_hasPlace_17 : decode m_Sto_hasPlace.2.1 17 = .ok (.iconst 0, 1) := by decide +kernel
theorem d_Sto_hasPlace_18 : decode m_Sto_hasPlace.2.1 18 = .ok (.ireturn, 1) := by decide +kernel
theorem d_Sto_keyAt_0 : decode m_Sto_keyAt.2.1 0 = .ok (.aload_n 0, 1) := by decide +kernel
theorem d_Sto_keyAt_1 : decode m_Sto_keyAt.2.1 1 = .ok (.getfield 30, 3) := by decide +kernel
theorem d_Sto_keyAt_4 : decode m_Sto_keyAt.2.1 4 = .ok (.aload_n 0, 1) := by decide +kernel
theorem d_Sto_keyAt_5 : decode m_Sto_keyAt.2.1 5 = .ok (.getfield 11, 3) := by decide +kernel
theorem d_Sto_keyAt_8 : decode m_Sto_keyAt.2.1 8 = .ok (.iload_n 1, 1) := by decide +kernel
theorem d_Sto_keyAt_9 : decode m_Sto_keyAt.2.1 9 = .ok (.aaload, 1) := by decide +kernel
theorem d_Sto_keyAt_10 : decode m_Sto_keyAt.2.1 10 = .ok (.getfield 56, 3) := by decide +kernel
theorem d_Sto_keyAt_13 : decode m_Sto_keyAt.2.1 13 = .ok (.iload_n 2, 1) := by decide +kernel
theorem d_Sto_keyAt_14 : decode m_Sto_keyAt.2.1 14 = .ok (.iaload, 1) := by decide +kernel
theorem d_Sto_keyAt_15 : decode m_Sto_keyAt.2.1 15 = .ok (.laload, 1) := by decide +kernel
theorem d_Sto_keyAt_16 : decode m_Sto_keyAt.2.1 16 = .ok (.lreturn, 1) := by decide +kernel
theorem d_Sto_slotOf_0 : decode m_Sto_slotOf.2.1 0 = .ok (.aload_n 0, 1) := by decide +kernel
theorem d_Sto_slotOf_1 : decode m_Sto_slotOf.2.1 1 = .ok (.iload_n 1, 1) := by decide +kernel
theorem d_Sto_slotOf_2 : decode m_Sto_slotOf.2.1 2 = .ok (.lload_n 2, 1) := by decide +kernel
theorem d_Sto_slotOf_3 : decode m_Sto_slotOf.2.1 3 = .ok (.iconst 0, 1) := by decide +kernel
theorem d_Sto_slotOf_4 : decode m_Sto_slotOf.2.1 4 = .ok (.invokevirtual 59, 3) := by decide +kernel
theorem d_Sto_slotOf_7 : decode m_Sto_slotOf.2.1 7 = .ok (.istore 4, 2) := by decide +kernel
theorem d_Sto_slotOf_9 : decode m_Sto_slotOf.2.1 9 = .ok (.aload_n 0, 1) := by decide +kernel
theorem d_Sto_slotOf_10 : decode m_Sto_slotOf.2.1 10 = .ok (.iload_n 1, 1) := by decide +kernel
theorem d_Sto_slotOf_11 : decode m_Sto_slotOf.2.1 11 = .ok (.iload 4, 2) := by decide +kernel
theorem d_Sto_slotOf_13 : decode m_Sto_slotOf.2.1 13 = .ok (.lload_n 2, 1) := by decide +kernel
theorem d_Sto_slotOf_14 : decode m_Sto_slotOf.2.1 14 = .ok (.invokevirtual 63, 3) := by decide +kernel
theorem d_Sto_slotOf_17 : decode m_Sto_slotOf.2.1 17 = .ok (.ifCond .eq 18, 3) := by decide +kernel
theorem d_Sto_slotOf_20 : decode m_Sto_slotOf.2.1 20 = .ok (.aload_n 0, 1) := by decide +kernel
theorem d_Sto_slotOf_21 : decode m_Sto_slotOf.2.1 21 = .ok (.getfield 11, 3) := by decide +kernel
theorem d_Sto_slotOf_24 : decode m_Sto_slotOf.2.1 24 = .ok (.iload_n 1, 1) := by decide +kernel
theorem d_Sto_slotOf_25 : decode m_Sto_slotOf.2.1 25 = .ok (.aaload, 1) := by decide +kernel
theorem d_Sto_slotOf_26 : decode m_Sto_slotOf.2.1 26 = .ok (.getfield 56, 3) := by decide +kernel
theorem d_Sto_slotOf_29 : decode m_Sto_slotOf.2.1 29 = .ok (.iload 4, 2) := by decide +kernel
theorem d_Sto_slotOf_31 : decode m_Sto_slotOf.2.1 31 = .ok (.iaload, 1) := by decide +kernel
theorem d_Sto_slotOf_32 : decode m_Sto_slotOf.2.1 32 = .ok (.goto 4, 3) := by decide +kernel
theorem d_Sto_slotOf_35 : decode m_Sto_slotOf.2.1 35 = .ok (.iconst (-1), 1) := by decide +kernel
theorem d_Sto_slotOf_36 : decode m_Sto_slotOf.2.1 36 = .ok (.ireturn, 1) := by decide +kernel
end
section
theorem d_TM_init_0 : decode m_TM_init.2.1 0 = .ok (.aload_n 0, 1) := by decide +kernel
theorem d_TM_init_1 : decode m_TM_init.2.1 1 = .ok (.invokespecial 1, 3) := by decide +kernel
theorem d_TM_init_4 : decode m_TM_init.2.1 4 = .ok (.aload_n 0, 1) := by decide +kernel
theorem d_TM_init_5 : decode m_TM_init.2.1 5 = .ok (.new 7, 3) := by decide +kernel
theorem d_TM_init_8 : decode m_TM_init.2.1 8 = .ok (.dup, 1) := by decide +kernel
theorem d_TM_init_9 : decode m_TM_init.2.1 9 = .ok (.invokespecial 9, 3) := by decide +kernel
theorem d_TM_init_12 : decode m_TM_init.2.1 12 = .ok (.putfield 10, 3) := by decide +kernel
theorem d_TM_init_15 : decode m_TM_init.2.1 15 = .ok (.aload_n 0, 1) := by decide +kernel
theorem d_TM_init_16 : decode m_TM_init.2.1 16 = .ok (.aload_n 0, 1) := by decide +kernel
theorem d_TM_init_17 : decode m_TM_init.2.1 17 = .ok (.getfield 10, 3) := by decide +kernel
theorem d_TM_init_20 : decode m_TM_init.2.1 20 = .ok (.getfield 16, 3) := by decide +kernel
theorem d_TM_init_23 : decode m_TM_init.2.1 23 = .ok (.putfield 20, 3) := by decide +kernel
theorem d_TM_init_26 : decode m_TM_init.2.1 26 = .ok (.aload_n 0, 1) := by decide +kernel
theorem d_TM_init_27 : decode m_TM_init.2.1 27 = .ok (.aload_n 0, 1) := by decide +kernel
theorem d_TM_init_28 : decode m_TM_init.2.1 28 = .ok (.getfield 10, 3) := by decide +kernel
theorem d_TM_init_31 : decode m_TM_init.2.1 31 = .ok (.getfield 21, 3) := by decide +kernel
theorem d_TM_init_34 : decode m_TM_init.2.1 34 = .ok (.putfield 25, 3) := by decide +kernel
theorem d_TM_init_37 : decode m_TM_init.2.1 37 = .ok (.aload_n 0, 1) := by decide +kernel
theorem d_TM_init_38 : decode m_TM_init.2.1 38 = .ok (.aload_n 0, 1) := by decide +kernel
theorem d_TM_init_39 : decode m_TM_init.2.1 39 = .ok (.getfield 10, 3) := by decide +kernel
theorem d_TM_init_42 : decode m_TM_init.2.1 42 = .ok (.getfield 26, 3) := by decide +kernel
theorem d_TM_init_45 : decode m_TM_init.2.1 45 = .ok (.putfield 30, 3) := by decide +kernel
theorem d_TM_init_48 : decode m_TM_init.2.1 48 = .ok (.aload_n 0, 1) := by decide +kernel
theorem d_TM_init_49 : decode m_TM_init.2.1 49 = .ok (.new 31, 3) := by decide +kernel
theorem d_TM_init_52 : decode m_TM_init.2.1 52 = .ok (.dup, 1) := by decide +kernel
theorem d_TM_init_53 : decode m_TM_init.2.1 53 = .ok (.iconst 4, 1) := by decide +kernel
theorem d_TM_init_54 : decode m_TM_init.2.1 54 = .ok (.invokespecial 33, 3) := by decide +kernel
theorem d_TM_init_57 : decode m_TM_init.2.1 57 = .ok (.putfield 36, 3) := by decide +kernel
theorem d_TM_init_60 : decode m_TM_init.2.1 60 = .ok (.aload_n 0, 1) := by decide +kernel
theorem d_TM_init_61 : decode m_TM_init.2.1 61 = .ok (.new 40, 3) := by decide +kernel
theorem d_TM_init_64 : decode m_TM_init.2.1 64 = .ok (.dup, 1) := by decide +kernel
theorem d_TM_init_65 : decode m_TM_init.2.1 65 = .ok (.invokespecial 42, 3) := by decide +kernel
theorem d_TM_init_68 : decode m_TM_init.2.1 68 = .ok (.putfield 43, 3) := by decide +kernel
theorem d_TM_init_71 : decode m_TM_init.2.1 71 = .ok (.return_, 1) := by decide +kernel
theorem d_TM_set_0 : decode m_TM_set.2.1 0 = .ok (.iload_n 1, 1) := by decide +kernel
theorem d_TM_set_1 : decode m_TM_set.2.1 1 = .ok (.iconst 4, 1) := by decide +kernel
theorem d_TM_set_2 : decode m_TM_set.2.1 2 = .ok (.invokestatic 69, 3) := by decide +kernel
theorem d_TM_set_5 : decode m_TM_set.2.1 5 = .ok (.ifCond .ne 5, 3) := by decide +kernel
theorem d_TM_set_8 : decode m_TM_set.2.1 8 = .ok (.iconst 0, 1) := by decide +kernel
theorem d_TM_set_9 : decode m_TM_set.2.1 9 = .ok (.ireturn, 1) := by decide +kernel
theorem d_TM_set_10 : decode m_TM_set.2.1 10 = .ok (.iload_n 2, 1) := by decide +kernel
theorem d_TM_set_11 : decode m_TM_set.2.1 11 = .ok (.ifCond .eq 15, 3) := by decide +kernel
theorem d_TM_set_14 : decode m_TM_set.2.1 14 = .ok (.aload_n 0, 1) := by decide +kernel
theorem d_TM_set_15 : decode m_TM_set.2.1 15 = .ok (.getfield 36, 3) := by decide +kernel
theorem d_TM_set_18 : decode m_TM_set.2.1 18 = .ok (.iload_n 1, 1) := by decide +kernel
theorem d_TM_set_19 : decode m_TM_set.2.1 19 = .ok (.lload_n 3, 1) := by decide +kernel
theorem d_TM_set_20 : decode m_TM_set.2.1 20 = .ok (.invokevirtual 73, 3) := by decide +kernel
theorem d_TM_set_23 : decode m_TM_set.2.1 23 = .ok (.goto 11, 3) := by decide +kernel
theorem d_TM_set_26 : decode m_TM_set.2.1 26 = .ok (.aload_n 0, 1) := by decide +kernel
theorem d_TM_set_27 : decode m_TM_set.2.1 27 = .ok (.getfield 36, 3) := by decide +kernel
theorem d_TM_set_30 : decode m_TM_set.2.1 30 = .ok (.iload_n 1, 1) := by decide +kernel
theorem d_TM_set_31 : decode m_TM_set.2.1 31 = .ok (.invokevirtual 77, 3) := by decide +kernel
theorem d_TM_set_34 : decode m_TM_set.2.1 34 = .ok (.iconst 1, 1) := by decide +kernel
theorem d_TM_set_35 : decode m_TM_set.2.1 35 = .ok (.ireturn, 1) := by decide +kernel
theorem d_TM_isIndex_0 : decode m_TM_isIndex.2.1 0 = .ok (.iload_n 0, 1) := by decide +kernel
theorem d_TM_isIndex_1 : decode m_TM_isIndex.2.1 1 = .ok (.ifCond .lt 12, 3) := by decide +kernel
theorem d_TM_isIndex_4 : decode m_TM_isIndex.2.1 4 = .ok (.iload_n 0, 1) := by decide +kernel
theorem d_TM_isIndex_5 : decode m_TM_isIndex.2.1 5 = .ok (.iload_n 1, 1) := by decide +kernel
theorem d_TM_isIndex_6 : decode m_TM_isIndex.2.1 6 = .ok (.if_icmp .ge 7, 3) := by decide +kernel
theorem d_TM_isIndex_9 : decode m_TM_isIndex.2.1 9 = .ok (.iconst 1, 1) := by decide +kernel
theorem d_TM_isIndex_10 : decode m_TM_isIndex.2.1 10 = .ok (.goto 4, 3) := by decide +kernel
theorem d_TM_isIndex_13 : decode m_TM_isIndex.2.1 13 = .ok (.iconst 0, 1) := by decide +kernel
theorem d_TM_isIndex_14 : decode m_TM_isIndex.2.1 14 = .ok (.ireturn, 1) := by decide +kernel
theorem d_TM_count_0 : decode m_TM_count.2.1 0 = .ok (.aload_n 0, 1) := by decide +kernel
theorem d_TM_count_1 : decode m_TM_count.2.1 1 = .ok (.getfield 20, 3) := by decide +kernel
theorem d_TM_count_4 : decode m_TM_count.2.1 4 = .ok (.iload_n 1, 1) := by decide +kernel
theorem d_TM_count_5 : decode m_TM_count.2.1 5 = .ok (.invokevirtual 97, 3) := by decide +kernel
theorem d_TM_count_8 : decode m_TM_count.2.1 8 = .ok (.ifCond .eq 18, 3) := by decide +kernel
theorem d_TM_count_11 : decode m_TM_count.2.1 11 = .ok (.aload_n 0, 1) := by decide +kernel
theorem d_TM_count_12 : decode m_TM_count.2.1 12 = .ok (.getfield 20, 3) := by decide +kernel
theorem d_TM_count_15 : decode m_TM_count.2.1 15 = .ok (.getfield 101, 3) := by decide +kernel
theorem d_TM_count_18 : decode m_TM_count.2.1 18 = .ok (.iload_n 1, 1) := by decide +kernel
theorem d_TM_count_19 : decode m_TM_count.2.1 19 = .ok (.aaload, 1) := by decide +kernel
theorem d_TM_count_20 : decode m_TM_count.2.1 20 = .ok (.getfield 105, 3) := by decide +kernel
theorem d_TM_count_23 : decode m_TM_count.2.1 23 = .ok (.goto 4, 3) := by decide +kernel
theorem d_TM_count_26 : decode m_TM_count.2.1 26 = .ok (.iconst (-1), 1) := by decide +kernel
theorem d_TM_count_27 : decode m_TM_count.2.1 27 = .ok (.ireturn, 1) := by decide +kernel
theorem d_TM_wipe_0 : decode m_TM_wipe.2.1 0 = .ok (.aload_n 0, 1) := by decide +kernel
theorem d_TM_wipe_1 : decode m_TM_wipe.2.1 1 = .ok (.getfield 25, 3) := by decide +kernel
theorem d_TM_wipe_4 : decode m_TM_wipe.2.1 4 = .ok (.iconst 0, 1) := by decide +kernel
theorem d_TM_wipe_5 : decode m_TM_wipe.2.1 5 = .ok (.putfield 148, 3) := by decide +kernel
theorem d_TM_wipe_8 : decode m_TM_wipe.2.1 8 = .ok (.return_, 1) := by decide +kernel
theorem d_TM_ask_0 : decode m_TM_ask.2.1 0 = .ok (.aload_n 0, 1) := by decide +kernel
theorem d_TM_ask_1 : decode m_TM_ask.2.1 1 = .ok (.getfield 20, 3) := by decide +kernel
theorem d_TM_ask_4 : decode m_TM_ask.2.1 4 = .ok (.iload_n 1, 1) := by decide +kernel
theorem d_TM_ask_5 : decode m_TM_ask.2.1 5 = .ok (.invokevirtual 97, 3) := by decide +kernel
theorem d_TM_ask_8 : decode m_TM_ask.2.1 8 = .ok (.ifCond .eq 19, 3) := by decide +kernel
theorem d_TM_ask_11 : decode m_TM_ask.2.1 11 = .ok (.iload_n 2, 1) := by decide +kernel
theorem d_TM_ask_12 : decode m_TM_ask.2.1 12 = .ok (.iconst (-1), 1) := by decide +kernel
theorem d_TM_ask_13 : decode m_TM_ask.2.1 13 = .ok (.if_icmp .eq 16, 3) := by decide +kernel
theorem d_TM_ask_16 : decode m_TM_ask.2.1 16 = .ok (.aload_n 0, 1) := by decide +kernel
theorem d_TM_ask_17 : decode m_TM_ask.2.1 17 = .ok (.getfield 20, 3) := by decide +kernel
theorem d_TM_ask_20 : decode m_TM_ask.2.1 20 = .ok (.iload_n 2, 1) := by decide +kernel
theorem d_TM_ask_21 : decode m_TM_ask.2.1 21 = .ok (.invokevirtual 97, 3) := by decide +kernel
theorem d_TM_ask_24 : decode m_TM_ask.2.1 24 = .ok (.ifCond .ne 5, 3) := by decide +kernel
theorem d_TM_ask_27 : decode m_TM_ask.2.1 27 = .ok (.iconst 0, 1) := by decide +kernel
theorem d_TM_ask_28 : decode m_TM_ask.2.1 28 = .ok (.ireturn, 1) := by decide +kernel
theorem d_TM_ask_29 : decode m_TM_ask.2.1 29 = .ok (.aload_n 0, 1) := by decide +kernel
theorem d_TM_ask_30 : decode m_TM_ask.2.1 30 = .ok (.getfield 43, 3) := by decide +kernel
theorem d_TM_ask_33 : decode m_TM_ask.2.1 33 = .ok (.iload_n 1, 1) := by decide +kernel
theorem d_TM_ask_34 : decode m_TM_ask.2.1 34 = .ok (.iload_n 2, 1) := by decide +kernel
theorem d_TM_ask_35 : decode m_TM_ask.2.1 35 = .ok (.invokevirtual 194, 3) := by decide +kernel
theorem d_TM_ask_38 : decode m_TM_ask.2.1 38 = .ok (.iconst 1, 1) := by decide +kernel
theorem d_TM_ask_39 : decode m_TM_ask.2.1 39 = .ok (.ireturn, 1) := by decide +kernel
theorem d_TM_output_0 : decode m_TM_output.2.1 0 = .ok (.aload_n 0, 1) := by decide +kernel
theorem d_TM_output_1 : decode m_TM_output.2.1 1 = .ok (.getfield 43, 3) := by decide +kernel
theorem d_TM_output_4 : decode m_TM_output.2.1 4 = .ok (.getfield 197, 3) := by decide +kernel
theorem d_TM_output_7 : decode m_TM_output.2.1 7 = .ok (.iconst 4, 1) := by decide +kernel
theorem d_TM_output_8 : decode m_TM_output.2.1 8 = .ok (.if_icmp .eq 12, 3) := by decide +kernel
theorem d_TM_output_11 : decode m_TM_output.2.1 11 = .ok (.aload_n 0, 1) := by decide +kernel
theorem d_TM_output_12 : decode m_TM_output.2.1 12 = .ok (.iload_n 1, 1) := by decide +kernel
theorem d_TM_output_13 : decode m_TM_output.2.1 13 = .ok (.iload_n 2, 1) := by decide +kernel
theorem d_TM_output_14 : decode m_TM_output.2.1 14 = .ok (.invokevirtual 200, 3) := by decide +kernel
theorem d_TM_output_17 : decode m_TM_output.2.1 17 = .ok (.ifCond .ne 5, 3) := by decide +kernel
theorem d_TM_output_20 : decode m_TM_output.2.1 20 = .ok (.iconst 0, 1) := by decide +kernel
theorem d_TM_output_21 : decode m_TM_output.2.1 21 = .ok (.ireturn, 1) := by decide +kernel
theorem d_TM_output_22 : decode m_TM_output.2.1 22 = .ok (.aload_n 0, 1) := by decide +kernel
theorem d_TM_output_23 : decode m_TM_output.2.1 23 = .ok (.getfield 43, 3) := by decide +kernel
theorem d_TM_output_26 : decode m_TM_output.2.1 26 = .ok (.iload_n 1, 1) := by decide +kernel
theorem d_TM_output_27 : decode m_TM_output.2.1 27 = .ok (.iload_n 2, 1) := by decide +kernel
theorem d_TM_output_28 : decode m_TM_output.2.1 28 = .ok (.invokevirtual 203, 3) := by decide +kernel
theorem d_TM_output_31 : decode m_TM_output.2.1 31 = .ok (.iconst 1, 1) := by decide +kernel
theorem d_TM_output_32 : decode m_TM_output.2.1 32 = .ok (.ireturn, 1) := by decide +kernel
theorem d_TM_canAskFor_0 : decode m_TM_canAskFor.2.1 0 = .ok (.aload_n 0, 1) := by decide +kernel
theorem d_TM_canAskFor_1 : decode m_TM_canAskFor.2.1 1 = .ok (.getfield 43, 3) := by decide +kernel
theorem d_TM_canAskFor_4 : decode m_TM_canAskFor.2.1 4 = .ok (.iload_n 1, 1) := by decide +kernel
theorem d_TM_canAskFor_5 : decode m_TM_canAskFor.2.1 5 = .ok (.invokevirtual 236, 3) := by decide +kernel
theorem d_TM_canAskFor_8 : decode m_TM_canAskFor.2.1 8 = .ok (.ifCond .ne 5, 3) := by decide +kernel
theorem d_TM_canAskFor_11 : decode m_TM_canAskFor.2.1 11 = .ok (.iconst 0, 1) := by decide +kernel
theorem d_TM_canAskFor_12 : decode m_TM_canAskFor.2.1 12 = .ok (.ireturn, 1) := by decide +kernel
theorem d_TM_canAskFor_13 : decode m_TM_canAskFor.2.1 13 = .ok (.iload_n 2, 1) := by decide +kernel
theorem d_TM_canAskFor_14 : decode m_TM_canAskFor.2.1 14 = .ok (.iconst (-1), 1) := by decide +kernel
theorem d_TM_canAskFor_15 : decode m_TM_canAskFor.2.1 15 = .ok (.if_icmp .eq 23, 3) := by decide +kernel
theorem d_TM_canAskFor_18 : decode m_TM_canAskFor.2.1 18 = .ok (.aload_n 0, 1) := by decide +kernel
theorem d_TM_canAskFor_19 : decode m_TM_canAskFor.2.1 19 = .ok (.getfield 20, 3) := by decide +kernel
theorem d_TM_canAskFor_22 : decode m_TM_canAskFor.2.1 22 = .ok (.aload_n 0, 1) := by decide +kernel
theorem d_TM_canAskFor_23 : decode m_TM_canAskFor.2.1 23 = .ok (.getfield 43, 3) := by decide +kernel
theorem d_TM_canAskFor_26 : decode m_TM_canAskFor.2.1 26 = .ok (.getfield 239, 3) := by decide +kernel
theorem d_TM_canAskFor_29 : decode m_TM_canAskFor.2.1 29 = .ok (.iload_n 1, 1) := by decide +kernel
theorem d_TM_canAskFor_30 : decode m_TM_canAskFor.2.1 30 = .ok (.iaload, 1) := by decide +kernel
theorem d_TM_canAskFor_31 : decode m_TM_canAskFor.2.1 31 = .ok (.iload_n 2, 1) := by decide +kernel
theorem d_TM_canAskFor_32 : decode m_TM_canAskFor.2.1 32 = .ok (.invokevirtual 223, 3) := by decide +kernel
theorem d_TM_canAskFor_35 : decode m_TM_canAskFor.2.1 35 = .ok (.ifCond .eq 7, 3) := by decide +kernel
theorem d_TM_canAskFor_38 : decode m_TM_canAskFor.2.1 38 = .ok (.iconst 1, 1) := by decide +kernel
theorem d_TM_canAskFor_39 : decode m_TM_canAskFor.2.1 39 = .ok (.goto 4, 3) := by decide +kernel
theorem d_TM_canAskFor_42 : decode m_TM_canAskFor.2.1 42 = .ok (.iconst 0, 1) := by decide +kernel
theorem d_TM_canAskFor_43 : decode m_TM_canAskFor.2.1 43 = .ok (.ireturn, 1) := by decide +kernel
theorem d_TM_condition_0 : decode m_TM_condition.2.1 0 = .ok (.aload_n 0, 1) := by decide +kernel
theorem d_TM_condition_1 : decode m_TM_condition.2.1 1 = .ok (.getfield 43, 3) := by decide +kernel
theorem d_TM_condition_4 : decode m_TM_condition.2.1 4 = .ok (.getfield 206, 3) := by decide +kernel
theorem d_TM_condition_7 : decode m_TM_condition.2.1 7 = .ok (.iconst 4, 1) := by decide +kernel
theorem d_TM_condition_8 : decode m_TM_condition.2.1 8 = .ok (.if_icmp .eq 12, 3) := by decide +kernel
theorem d_TM_condition_11 : decode m_TM_condition.2.1 11 = .ok (.aload_n 0, 1) := by decide +kernel
theorem d_TM_condition_12 : decode m_TM_condition.2.1 12 = .ok (.iload_n 1, 1) := by decide +kernel
theorem d_TM_condition_13 : decode m_TM_condition.2.1 13 = .ok (.iload_n 2, 1) := by decide +kernel
theorem d_TM_condition_14 : decode m_TM_condition.2.1 14 = .ok (.invokevirtual 200, 3) := by decide +kernel
theorem d_TM_condition_17 : decode m_TM_condition.2.1 17 = .ok (.ifCond .ne 5, 3) := by decide +kernel
theorem d_TM_condition_20 : decode m_TM_condition.2.1 20 = .ok (.iconst 0, 1) := by decide +kernel
theorem d_TM_condition_21 : decode m_TM_condition.2.1 21 = .ok (.ireturn, 1) := by decide +kernel
theorem d_TM_condition_22 : decode m_TM_condition.2.1 22 = .ok (.iload_n 3, 1) := by decide +kernel
theorem d_TM_condition_23 : decode m_TM_condition.2.1 23 = .ok (.bipush 8, 2) := by decide +kernel
theorem d_TM_condition_25 : decode m_TM_condition.2.1 25 = .ok (.invokestatic 69, 3) := by decide +kernel
theorem d_TM_condition_28 : decode m_TM_condition.2.1 28 = .ok (.ifCond .ne 5, 3) := by decide +kernel
theorem d_TM_condition_31 : decode m_TM_condition.2.1 31 = .ok (.iconst 0, 1) := by decide +kernel
theorem d_TM_condition_32 : decode m_TM_condition.2.1 32 = .ok (.ireturn, 1) := by decide +kernel
theorem d_TM_condition_33 : decode m_TM_condition.2.1 33 = .ok (.aload_n 0, 1) := by decide +kernel
theorem d_TM_condition_34 : decode m_TM_condition.2.1 34 = .ok (.getfield 43, 3) := by decide +kernel
theorem d_TM_condition_37 : decode m_TM_condition.2.1 37 = .ok (.iload_n 1, 1) := by decide +kernel
theorem d_TM_condition_38 : decode m_TM_condition.2.1 38 = .ok (.iload_n 2, 1) := by decide +kernel
theorem d_TM_condition_39 : decode m_TM_condition.2.1 39 = .ok (.iload_n 3, 1) := by decide +kernel
theorem d_TM_condition_40 : decode m_TM_condition.2.1 40 = .ok (.iload 4, 2) := by decide +kernel
theorem d_TM_condition_42 : decode m_TM_condition.2.1 42 = .ok (.invokevirtual 209, 3) := by decide +kernel
theorem d_TM_condition_45 : decode m_TM_condition.2.1 45 = .ok (.iconst 1, 1) := by decide +kernel
theorem d_TM_condition_46 : decode m_TM_condition.2.1 46 = .ok (.ireturn, 1) := by decide +kernel
theorem d_TM_join_0 : decode m_TM_join.2.1 0 = .ok (.aload_n 0, 1) := by decide +kernel
theorem d_TM_join_1 : decode m_TM_join.2.1 1 = .ok (.iconst 0, 1) := by decide +kernel
theorem d_TM_join_2 : decode m_TM_join.2.1 2 = .ok (.iload_n 1, 1) := by decide +kernel
theorem d_TM_join_3 : decode m_TM_join.2.1 3 = .ok (.invokevirtual 200, 3) := by decide +kernel
theorem d_TM_join_6 : decode m_TM_join.2.1 6 = .ok (.ifCond .eq 12, 3) := by decide +kernel
theorem d_TM_join_9 : decode m_TM_join.2.1 9 = .ok (.aload_n 0, 1) := by decide +kernel
theorem d_TM_join_10 : decode m_TM_join.2.1 10 = .ok (.iconst 1, 1) := by decide +kernel
theorem d_TM_join_11 : decode m_TM_join.2.1 11 = .ok (.iload_n 2, 1) := by decide +kernel
theorem d_TM_join_12 : decode m_TM_join.2.1 12 = .ok (.invokevirtual 200, 3) := by decide +kernel
theorem d_TM_join_15 : decode m_TM_join.2.1 15 = .ok (.ifCond .ne 5, 3) := by decide +kernel
theorem d_TM_join_18 : decode m_TM_join.2.1 18 = .ok (.iconst 0, 1) := by decide +kernel
theorem d_TM_join_19 : decode m_TM_join.2.1 19 = .ok (.ireturn, 1) := by decide +kernel
theorem d_TM_join_20 : decode m_TM_join.2.1 20 = .ok (.aload_n 0, 1) := by decide +kernel
theorem d_TM_join_21 : decode m_TM_join.2.1 21 = .ok (.getfield 43, 3) := by decide +kernel
theorem d_TM_join_24 : decode m_TM_join.2.1 24 = .ok (.iload_n 1, 1) := by decide +kernel
theorem d_TM_join_25 : decode m_TM_join.2.1 25 = .ok (.iload_n 2, 1) := by decide +kernel
theorem d_TM_join_26 : decode m_TM_join.2.1 26 = .ok (.invokevirtual 212, 3) := by decide +kernel
theorem d_TM_join_29 : decode m_TM_join.2.1 29 = .ok (.iconst 1, 1) := by decide +kernel
theorem d_TM_join_30 : decode m_TM_join.2.1 30 = .ok (.ireturn, 1) := by decide +kernel
theorem d_TM_table_0 : decode m_TM_table.2.1 0 = .ok (.iload_n 1, 1) := by decide +kernel
theorem d_TM_table_1 : decode m_TM_table.2.1 1 = .ok (.iconst 1, 1) := by decide +kernel
theorem d_TM_table_2 : decode m_TM_table.2.1 2 = .ok (.if_icmp .lt 8, 3) := by decide +kernel
theorem d_TM_table_5 : decode m_TM_table.2.1 5 = .ok (.iload_n 1, 1) := by decide +kernel
theorem d_TM_table_6 : decode m_TM_table.2.1 6 = .ok (.iconst 4, 1) := by decide +kernel
theorem d_TM_table_7 : decode m_TM_table.2.1 7 = .ok (.if_icmp .le 13, 3) := by decide +kernel
theorem d_TM_table_10 : decode m_TM_table.2.1 10 = .ok (.new 47, 3) := by decide +kernel
theorem d_TM_table_13 : decode m_TM_table.2.1 13 = .ok (.dup, 1) := by decide +kernel
theorem d_TM_table_14 : decode m_TM_table.2.1 14 = .ok (.ldc 49, 2) := by decide +kernel
theorem d_TM_table_16 : decode m_TM_table.2.1 16 = .ok (.invokespecial 51, 3) := by decide +kernel
theorem d_TM_table_19 : decode m_TM_table.2.1 19 = .ok (.athrow, 1) := by decide +kernel
theorem d_TM_table_20 : decode m_TM_table.2.1 20 = .ok (.aload_n 0, 1) := by decide +kernel
theorem d_TM_table_21 : decode m_TM_table.2.1 21 = .ok (.getfield 20, 3) := by decide +kernel
theorem d_TM_table_24 : decode m_TM_table.2.1 24 = .ok (.getfield 54, 3) := by decide +kernel
theorem d_TM_table_27 : decode m_TM_table.2.1 27 = .ok (.iconst 3, 1) := by decide +kernel
theorem d_TM_table_28 : decode m_TM_table.2.1 28 = .ok (.if_icmp .ne 13, 3) := by decide +kernel
theorem d_TM_table_31 : decode m_TM_table.2.1 31 = .ok (.new 60, 3) := by decide +kernel
theorem d_TM_table_34 : decode m_TM_table.2.1 34 = .ok (.dup, 1) := by decide +kernel
theorem d_TM_table_35 : decode m_TM_table.2.1 35 = .ok (.ldc 62, 2) := by decide +kernel
theorem d_TM_table_37 : decode m_TM_table.2.1 37 = .ok (.invokespecial 64, 3) := by decide +kernel
theorem d_TM_table_40 : decode m_TM_table.2.1 40 = .ok (.athrow, 1) := by decide +kernel
theorem d_TM_table_41 : decode m_TM_table.2.1 41 = .ok (.aload_n 0, 1) := by decide +kernel
theorem d_TM_table_42 : decode m_TM_table.2.1 42 = .ok (.getfield 20, 3) := by decide +kernel
theorem d_TM_table_45 : decode m_TM_table.2.1 45 = .ok (.iload_n 1, 1) := by decide +kernel
theorem d_TM_table_46 : decode m_TM_table.2.1 46 = .ok (.invokevirtual 65, 3) := by decide +kernel
theorem d_TM_table_49 : decode m_TM_table.2.1 49 = .ok (.ireturn, 1) := by decide +kernel
theorem d_TM_insert_0 : decode m_TM_insert.2.1 0 = .ok (.aload_n 0, 1) := by decide +kernel
theorem d_TM_insert_1 : decode m_TM_insert.2.1 1 = .ok (.iload_n 1, 1) := by decide +kernel
theorem d_TM_insert_2 : decode m_TM_insert.2.1 2 = .ok (.invokevirtual 80, 3) := by decide +kernel
theorem d_TM_insert_5 : decode m_TM_insert.2.1 5 = .ok (.aload_n 0, 1) := by decide +kernel
theorem d_TM_insert_6 : decode m_TM_insert.2.1 6 = .ok (.getfield 20, 3) := by decide +kernel
theorem d_TM_insert_9 : decode m_TM_insert.2.1 9 = .ok (.invokevirtual 83, 3) := by decide +kernel
theorem d_TM_insert_12 : decode m_TM_insert.2.1 12 = .ok (.ifCond .eq 13, 3) := by decide +kernel
theorem d_TM_insert_15 : decode m_TM_insert.2.1 15 = .ok (.new 60, 3) := by decide +kernel
theorem d_TM_insert_18 : decode m_TM_insert.2.1 18 = .ok (.dup, 1) := by decide +kernel
theorem d_TM_insert_19 : decode m_TM_insert.2.1 19 = .ok (.ldc 87, 2) := by decide +kernel
theorem d_TM_insert_21 : decode m_TM_insert.2.1 21 = .ok (.invokespecial 64, 3) := by decide +kernel
theorem d_TM_insert_24 : decode m_TM_insert.2.1 24 = .ok (.athrow, 1) := by decide +kernel
theorem d_TM_insert_25 : decode m_TM_insert.2.1 25 = .ok (.aload_n 0, 1) := by decide +kernel
theorem d_TM_insert_26 : decode m_TM_insert.2.1 26 = .ok (.getfield 20, 3) := by decide +kernel
theorem d_TM_insert_29 : decode m_TM_insert.2.1 29 = .ok (.iload_n 1, 1) := by decide +kernel
theorem d_TM_insert_30 : decode m_TM_insert.2.1 30 = .ok (.lload_n 2, 1) := by decide +kernel
theorem d_TM_insert_31 : decode m_TM_insert.2.1 31 = .ok (.aload_n 0, 1) := by decide +kernel
theorem d_TM_insert_32 : decode m_TM_insert.2.1 32 = .ok (.getfield 36, 3) := by decide +kernel
theorem d_TM_insert_35 : decode m_TM_insert.2.1 35 = .ok (.iconst 0, 1) := by decide +kernel
theorem d_TM_insert_36 : decode m_TM_insert.2.1 36 = .ok (.invokevirtual 89, 3) := by decide +kernel
theorem d_TM_insert_39 : decode m_TM_insert.2.1 39 = .ok (.ireturn, 1) := by decide +kernel
theorem d_TM_requireTable_0 : decode m_TM_requireTable.2.1 0 = .ok (.aload_n 0, 1) := by decide +kernel
theorem d_TM_requireTable_1 : decode m_TM_requireTable.2.1 1 = .ok (.getfield 20, 3) := by decide +kernel
theorem d_TM_requireTable_4 : decode m_TM_requireTable.2.1 4 = .ok (.iload_n 1, 1) := by decide +kernel
theorem d_TM_requireTable_5 : decode m_TM_requireTable.2.1 5 = .ok (.invokevirtual 97, 3) := by decide +kernel
theorem d_TM_requireTable_8 : decode m_TM_requireTable.2.1 8 = .ok (.ifCond .ne 13, 3) := by decide +kernel
theorem d_TM_requireTable_11 : decode m_TM_requireTable.2.1 11 = .ok (.new 47, 3) := by decide +kernel
theorem d_TM_requireTable_14 : decode m_TM_requireTable.2.1 14 = .ok (.dup, 1) := by decide +kernel
theorem d_TM_requireTable_15 : decode m_TM_requireTable.2.1 15 = .ok (.ldc 221, 2) := by decide +kernel
theorem d_TM_requireTable_17 : decode m_TM_requireTable.2.1 17 = .ok (.invokespecial 51, 3) := by decide +kernel
theorem d_TM_requireTable_20 : decode m_TM_requireTable.2.1 20 = .ok (.athrow, 1) := by decide +kernel
theorem d_TM_requireTable_21 : decode m_TM_requireTable.2.1 21 = .ok (.return_, 1) := by decide +kernel
theorem d_TM_delete_0 : decode m_TM_delete.2.1 0 = .ok (.aload_n 0, 1) := by decide +kernel
theorem d_TM_delete_1 : decode m_TM_delete.2.1 1 = .ok (.iload_n 1, 1) := by decide +kernel
theorem d_TM_delete_2 : decode m_TM_delete.2.1 2 = .ok (.invokevirtual 80, 3) := by decide +kernel
theorem d_TM_delete_5 : decode m_TM_delete.2.1 5 = .ok (.aload_n 0, 1) := by decide +kernel
theorem d_TM_delete_6 : decode m_TM_delete.2.1 6 = .ok (.getfield 20, 3) := by decide +kernel
theorem d_TM_delete_9 : decode m_TM_delete.2.1 9 = .ok (.iload_n 1, 1) := by decide +kernel
theorem d_TM_delete_10 : decode m_TM_delete.2.1 10 = .ok (.lload_n 2, 1) := by decide +kernel
theorem d_TM_delete_11 : decode m_TM_delete.2.1 11 = .ok (.invokevirtual 93, 3) := by decide +kernel
theorem d_TM_delete_14 : decode m_TM_delete.2.1 14 = .ok (.ireturn, 1) := by decide +kernel
theorem d_TM_next_0 : decode m_TM_next.2.1 0 = .ok (.aload_n 0, 1) := by decide +kernel
theorem d_TM_next_1 : decode m_TM_next.2.1 1 = .ok (.iload_n 1, 1) := by decide +kernel
theorem d_TM_next_2 : decode m_TM_next.2.1 2 = .ok (.invokevirtual 80, 3) := by decide +kernel
theorem d_TM_next_5 : decode m_TM_next.2.1 5 = .ok (.aload_n 0, 1) := by decide +kernel
theorem d_TM_next_6 : decode m_TM_next.2.1 6 = .ok (.getfield 20, 3) := by decide +kernel
theorem d_TM_next_9 : decode m_TM_next.2.1 9 = .ok (.iload_n 1, 1) := by decide +kernel
theorem d_TM_next_10 : decode m_TM_next.2.1 10 = .ok (.lload_n 2, 1) := by decide +kernel
theorem d_TM_next_11 : decode m_TM_next.2.1 11 = .ok (.iload 4, 2) := by decide +kernel
theorem d_TM_next_13 : decode m_TM_next.2.1 13 = .ok (.invokevirtual 110, 3) := by decide +kernel
theorem d_TM_next_16 : decode m_TM_next.2.1 16 = .ok (.istore 5, 2) := by decide +kernel
theorem d_TM_next_18 : decode m_TM_next.2.1 18 = .ok (.aload_n 0, 1) := by decide +kernel
theorem d_TM_next_19 : decode m_TM_next.2.1 19 = .ok (.getfield 20, 3) := by decide +kernel
theorem d_TM_next_22 : decode m_TM_next.2.1 22 = .ok (.iload_n 1, 1) := by decide +kernel
theorem d_TM_next_23 : decode m_TM_next.2.1 23 = .ok (.iload 5, 2) := by decide +kernel
theorem d_TM_next_25 : decode m_TM_next.2.1 25 = .ok (.invokevirtual 114, 3) := by decide +kernel
theorem d_TM_next_28 : decode m_TM_next.2.1 28 = .ok (.ifCond .ne 13, 3) := by decide +kernel
theorem d_TM_next_31 : decode m_TM_next.2.1 31 = .ok (.new 117, 3) := by decide +kernel
theorem d_TM_next_34 : decode m_TM_next.2.1 34 = .ok (.dup, 1) := by decide +kernel
theorem d_TM_next_35 : decode m_TM_next.2.1 35 = .ok (.ldc 119, 2) := by decide +kernel
theorem d_TM_next_37 : decode m_TM_next.2.1 37 = .ok (.invokespecial 121, 3) := by decide +kernel
theorem d_TM_next_40 : decode m_TM_next.2.1 40 = .ok (.athrow, 1) := by decide +kernel
theorem d_TM_next_41 : decode m_TM_next.2.1 41 = .ok (.aload_n 0, 1) := by decide +kernel
theorem d_TM_next_42 : decode m_TM_next.2.1 42 = .ok (.getfield 20, 3) := by decide +kernel
theorem d_TM_next_45 : decode m_TM_next.2.1 45 = .ok (.iload_n 1, 1) := by decide +kernel
theorem d_TM_next_46 : decode m_TM_next.2.1 46 = .ok (.iload 5, 2) := by decide +kernel
theorem d_TM_next_48 : decode m_TM_next.2.1 48 = .ok (.invokevirtual 122, 3) := by decide +kernel
theorem d_TM_next_51 : decode m_TM_next.2.1 51 = .ok (.lreturn, 1) := by decide +kernel
theorem d_TM_value_0 : decode m_TM_value.2.1 0 = .ok (.aload_n 0, 1) := by decide +kernel
theorem d_TM_value_1 : decode m_TM_value.2.1 1 = .ok (.getfield 20, 3) := by decide +kernel
theorem d_TM_value_4 : decode m_TM_value.2.1 4 = .ok (.getfield 126, 3) := by decide +kernel
theorem d_TM_value_7 : decode m_TM_value.2.1 7 = .ok (.aload_n 0, 1) := by decide +kernel
theorem d_TM_value_8 : decode m_TM_value.2.1 8 = .ok (.iload_n 1, 1) := by decide +kernel
theorem d_TM_value_9 : decode m_TM_value.2.1 9 = .ok (.lload_n 2, 1) := by decide +kernel
theorem d_TM_value_10 : decode m_TM_value.2.1 10 = .ok (.iload 4, 2) := by decide +kernel
theorem d_TM_value_12 : decode m_TM_value.2.1 12 = .ok (.invokevirtual 129, 3) := by decide +kernel
theorem d_TM_value_15 : decode m_TM_value.2.1 15 = .ok (.invokevirtual 133, 3) := by decide +kernel
theorem d_TM_value_18 : decode m_TM_value.2.1 18 = .ok (.lreturn, 1) := by decide +kernel
theorem d_TM_requireCell_0 : decode m_TM_requireCell.2.1 0 = .ok (.aload_n 0, 1) := by decide +kernel
theorem d_TM_requireCell_1 : decode m_TM_requireCell.2.1 1 = .ok (.getfield 20, 3) := by decide +kernel
theorem d_TM_requireCell_4 : decode m_TM_requireCell.2.1 4 = .ok (.iload_n 1, 1) := by decide +kernel
theorem d_TM_requireCell_5 : decode m_TM_requireCell.2.1 5 = .ok (.iload 4, 2) := by decide +kernel
theorem d_TM_requireCell_7 : decode m_TM_requireCell.2.1 7 = .ok (.invokevirtual 223, 3) := by decide +kernel
theorem d_TM_requireCell_10 : decode m_TM_requireCell.2.1 10 = .ok (.ifCond .ne 13, 3) := by decide +kernel
theorem d_TM_requireCell_13 : decode m_TM_requireCell.2.1 13 = .ok (.new 47, 3) := by decide +kernel
theorem d_TM_requireCell_16 : decode m_TM_requireCell.2.1 16 = .ok (.dup, 1) := by decide +kernel
theorem d_TM_requireCell_17 : decode m_TM_requireCell.2.1 17 = .ok (.ldc 226, 2) := by decide +kernel
theorem d_TM_requireCell_19 : decode m_TM_requireCell.2.1 19 = .ok (.invokespecial 51, 3) := by decide +kernel
theorem d_TM_requireCell_22 : decode m_TM_requireCell.2.1 22 = .ok (.athrow, 1) := by decide +kernel
theorem d_TM_requireCell_23 : decode m_TM_requireCell.2.1 23 = .ok (.aload_n 0, 1) := by decide +kernel
theorem d_TM_requireCell_24 : decode m_TM_requireCell.2.1 24 = .ok (.getfield 20, 3) := by decide +kernel
theorem d_TM_requireCell_27 : decode m_TM_requireCell.2.1 27 = .ok (.iload_n 1, 1) := by decide +kernel
theorem d_TM_requireCell_28 : decode m_TM_requireCell.2.1 28 = .ok (.lload_n 2, 1) := by decide +kernel
theorem d_TM_requireCell_29 : decode m_TM_requireCell.2.1 29 = .ok (.invokevirtual 228, 3) := by decide +kernel
theorem d_TM_requireCell_32 : decode m_TM_requireCell.2.1 32 = .ok (.istore 5, 2) := by decide +kernel
theorem d_TM_requireCell_34 : decode m_TM_requireCell.2.1 34 = .ok (.iload 5, 2) := by decide +kernel
theorem d_TM_requireCell_36 : decode m_TM_requireCell.2.1 36 = .ok (.iconst (-1), 1) := by decide +kernel
theorem d_TM_requireCell_37 : decode m_TM_requireCell.2.1 37 = .ok (.if_icmp .ne 13, 3) := by decide +kernel
theorem d_TM_requireCell_40 : decode m_TM_requireCell.2.1 40 = .ok (.new 117, 3) := by decide +kernel
theorem d_TM_requireCell_43 : decode m_TM_requireCell.2.1 43 = .ok (.dup, 1) := by decide +kernel
theorem d_TM_requireCell_44 : decode m_TM_requireCell.2.1 44 = .ok (.ldc 232, 2) := by decide +kernel
theorem d_TM_requireCell_46 : decode m_TM_requireCell.2.1 46 = .ok (.invokespecial 121, 3) := by decide +kernel
theorem d_TM_requireCell_49 : decode m_TM_requireCell.2.1 49 = .ok (.athrow, 1) := by decide +kernel
theorem d_TM_requireCell_50 : decode m_TM_requireCell.2.1 50 = .ok (.iload 5, 2) := by decide +kernel
theorem d_TM_requireCell_52 : decode m_TM_requireCell.2.1 52 = .ok (.iconst 4, 1) := by decide +kernel
theorem d_TM_requireCell_53 : decode m_TM_requireCell.2.1 53 = .ok (.imul, 1) := by decide +kernel
theorem d_TM_requireCell_54 : decode m_TM_requireCell.2.1 54 = .ok (.iload 4, 2) := by decide +kernel
theorem d_TM_requireCell_56 : decode m_TM_requireCell.2.1 56 = .ok (.iadd, 1) := by decide +kernel
theorem d_TM_requireCell_57 : decode m_TM_requireCell.2.1 57 = .ok (.ireturn, 1) := by decide +kernel
theorem d_TM_isNull_0 : decode m_TM_isNull.2.1 0 = .ok (.aload_n 0, 1) := by decide +kernel
theorem d_TM_isNull_1 : decode m_TM_isNull.2.1 1 = .ok (.getfield 20, 3) := by decide +kernel
theorem d_TM_isNull_4 : decode m_TM_isNull.2.1 4 = .ok (.getfield 126, 3) := by decide +kernel
theorem d_TM_isNull_7 : decode m_TM_isNull.2.1 7 = .ok (.aload_n 0, 1) := by decide +kernel
theorem d_TM_isNull_8 : decode m_TM_isNull.2.1 8 = .ok (.iload_n 1, 1) := by decide +kernel
theorem d_TM_isNull_9 : decode m_TM_isNull.2.1 9 = .ok (.lload_n 2, 1) := by decide +kernel
theorem d_TM_isNull_10 : decode m_TM_isNull.2.1 10 = .ok (.iload 4, 2) := by decide +kernel
theorem d_TM_isNull_12 : decode m_TM_isNull.2.1 12 = .ok (.invokevirtual 129, 3) := by decide +kernel
theorem d_TM_isNull_15 : decode m_TM_isNull.2.1 15 = .ok (.invokevirtual 137, 3) := by decide +kernel
theorem d_TM_isNull_18 : decode m_TM_isNull.2.1 18 = .ok (.ifCond .ne 7, 3) := by decide +kernel
theorem d_TM_isNull_21 : decode m_TM_isNull.2.1 21 = .ok (.iconst 1, 1) := by decide +kernel
theorem d_TM_isNull_22 : decode m_TM_isNull.2.1 22 = .ok (.goto 4, 3) := by decide +kernel
theorem d_TM_isNull_25 : decode m_TM_isNull.2.1 25 = .ok (.iconst 0, 1) := by decide +kernel
theorem d_TM_isNull_26 : decode m_TM_isNull.2.1 26 = .ok (.ireturn, 1) := by decide +kernel
theorem d_TM_add_0 : decode m_TM_add.2.1 0 = .ok (.iload_n 1, 1) := by decide +kernel
theorem d_TM_add_1 : decode m_TM_add.2.1 1 = .ok (.iload_n 2, 1) := by decide +kernel
theorem d_TM_add_2 : decode m_TM_add.2.1 2 = .ok (.iload_n 3, 1) := by decide +kernel
theorem d_TM_add_3 : decode m_TM_add.2.1 3 = .ok (.iload 4, 2) := by decide +kernel
theorem d_TM_add_5 : decode m_TM_add.2.1 5 = .ok (.invokestatic 140, 3) := by decide +kernel
theorem d_TM_add_8 : decode m_TM_add.2.1 8 = .ok (.ifCond .ne 13, 3) := by decide +kernel
theorem d_TM_add_11 : decode m_TM_add.2.1 11 = .ok (.new 47, 3) := by decide +kernel
theorem d_TM_add_14 : decode m_TM_add.2.1 14 = .ok (.dup, 1) := by decide +kernel
theorem d_TM_add_15 : decode m_TM_add.2.1 15 = .ok (.ldc 146, 2) := by decide +kernel
theorem d_TM_add_17 : decode m_TM_add.2.1 17 = .ok (.invokespecial 51, 3) := by decide +kernel
theorem d_TM_add_20 : decode m_TM_add.2.1 20 = .ok (.athrow, 1) := by decide +kernel
theorem d_TM_add_21 : decode m_TM_add.2.1 21 = .ok (.aload_n 0, 1) := by decide +kernel
theorem d_TM_add_22 : decode m_TM_add.2.1 22 = .ok (.getfield 25, 3) := by decide +kernel
theorem d_TM_add_25 : decode m_TM_add.2.1 25 = .ok (.getfield 148, 3) := by decide +kernel
theorem d_TM_add_28 : decode m_TM_add.2.1 28 = .ok (.bipush 60, 2) := by decide +kernel
theorem d_TM_add_30 : decode m_TM_add.2.1 30 = .ok (.if_icmp .ne 13, 3) := by decide +kernel
theorem d_TM_add_33 : decode m_TM_add.2.1 33 = .ok (.new 60, 3) := by decide +kernel
theorem d_TM_add_36 : decode m_TM_add.2.1 36 = .ok (.dup, 1) := by decide +kernel
theorem d_TM_add_37 : decode m_TM_add.2.1 37 = .ok (.ldc 151, 2) := by decide +kernel
theorem d_TM_add_39 : decode m_TM_add.2.1 39 = .ok (.invokespecial 64, 3) := by decide +kernel
theorem d_TM_add_42 : decode m_TM_add.2.1 42 = .ok (.athrow, 1) := by decide +kernel
theorem d_TM_add_43 : decode m_TM_add.2.1 43 = .ok (.aload_n 0, 1) := by decide +kernel
theorem d_TM_add_44 : decode m_TM_add.2.1 44 = .ok (.getfield 25, 3) := by decide +kernel
theorem d_TM_add_47 : decode m_TM_add.2.1 47 = .ok (.iload_n 1, 1) := by decide +kernel
theorem d_TM_add_48 : decode m_TM_add.2.1 48 = .ok (.iload_n 1, 1) := by decide +kernel
theorem d_TM_add_49 : decode m_TM_add.2.1 49 = .ok (.iconst 0, 1) := by decide +kernel
theorem d_TM_add_50 : decode m_TM_add.2.1 50 = .ok (.iload_n 2, 1) := by decide +kernel
theorem d_TM_add_51 : decode m_TM_add.2.1 51 = .ok (.invokestatic 153, 3) := by decide +kernel
theorem d_TM_add_54 : decode m_TM_add.2.1 54 = .ok (.iload_n 1, 1) := by decide +kernel
theorem d_TM_add_55 : decode m_TM_add.2.1 55 = .ok (.iconst 1, 1) := by decide +kernel
theorem d_TM_add_56 : decode m_TM_add.2.1 56 = .ok (.iload_n 3, 1) := by decide +kernel
theorem d_TM_add_57 : decode m_TM_add.2.1 57 = .ok (.invokestatic 153, 3) := by decide +kernel
theorem d_TM_add_60 : decode m_TM_add.2.1 60 = .ok (.iload_n 1, 1) := by decide +kernel
theorem d_TM_add_61 : decode m_TM_add.2.1 61 = .ok (.iconst 2, 1) := by decide +kernel
theorem d_TM_add_62 : decode m_TM_add.2.1 62 = .ok (.iload 4, 2) := by decide +kernel
theorem d_TM_add_64 : decode m_TM_add.2.1 64 = .ok (.invokestatic 153, 3) := by decide +kernel
theorem d_TM_add_67 : decode m_TM_add.2.1 67 = .ok (.invokevirtual 157, 3) := by decide +kernel
theorem d_TM_add_70 : decode m_TM_add.2.1 70 = .ok (.aload_n 0, 1) := by decide +kernel
theorem d_TM_add_71 : decode m_TM_add.2.1 71 = .ok (.getfield 25, 3) := by decide +kernel
theorem d_TM_add_74 : decode m_TM_add.2.1 74 = .ok (.getfield 148, 3) := by decide +kernel
theorem d_TM_add_77 : decode m_TM_add.2.1 77 = .ok (.iconst 1, 1) := by decide +kernel
theorem d_TM_add_78 : decode m_TM_add.2.1 78 = .ok (.isub, 1) := by decide +kernel
theorem d_TM_add_79 : decode m_TM_add.2.1 79 = .ok (.ireturn, 1) := by decide +kernel
theorem d_TM_code_0 : decode m_TM_code.2.1 0 = .ok (.iload_n 1, 1) := by decide +kernel
theorem d_TM_code_1 : decode m_TM_code.2.1 1 = .ok (.aload_n 0, 1) := by decide +kernel
theorem d_TM_code_2 : decode m_TM_code.2.1 2 = .ok (.getfield 25, 3) := by decide +kernel
theorem d_TM_code_5 : decode m_TM_code.2.1 5 = .ok (.getfield 148, 3) := by decide +kernel
theorem d_TM_code_8 : decode m_TM_code.2.1 8 = .ok (.invokestatic 69, 3) := by decide +kernel
theorem d_TM_code_11 : decode m_TM_code.2.1 11 = .ok (.ifCond .eq 11, 3) := by decide +kernel
theorem d_TM_code_14 : decode m_TM_code.2.1 14 = .ok (.iload_n 2, 1) := by decide +kernel
theorem d_TM_code_15 : decode m_TM_code.2.1 15 = .ok (.iconst 4, 1) := by decide +kernel
theorem d_TM_code_16 : decode m_TM_code.2.1 16 = .ok (.invokestatic 69, 3) := by decide +kernel
theorem d_TM_code_19 : decode m_TM_code.2.1 19 = .ok (.ifCond .ne 13, 3) := by decide +kernel
theorem d_TM_code_22 : decode m_TM_code.2.1 22 = .ok (.new 161, 3) := by decide +kernel
theorem d_TM_code_25 : decode m_TM_code.2.1 25 = .ok (.dup, 1) := by decide +kernel
theorem d_TM_code_26 : decode m_TM_code.2.1 26 = .ok (.ldc 163, 2) := by decide +kernel
theorem d_TM_code_28 : decode m_TM_code.2.1 28 = .ok (.invokespecial 165, 3) := by decide +kernel
theorem d_TM_code_31 : decode m_TM_code.2.1 31 = .ok (.athrow, 1) := by decide +kernel
theorem d_TM_code_32 : decode m_TM_code.2.1 32 = .ok (.aload_n 0, 1) := by decide +kernel
theorem d_TM_code_33 : decode m_TM_code.2.1 33 = .ok (.getfield 25, 3) := by decide +kernel
theorem d_TM_code_36 : decode m_TM_code.2.1 36 = .ok (.iload_n 1, 1) := by decide +kernel
theorem d_TM_code_37 : decode m_TM_code.2.1 37 = .ok (.iload_n 2, 1) := by decide +kernel
theorem d_TM_code_38 : decode m_TM_code.2.1 38 = .ok (.invokevirtual 166, 3) := by decide +kernel
theorem d_TM_code_41 : decode m_TM_code.2.1 41 = .ok (.ireturn, 1) := by decide +kernel
theorem d_TM_run_0 : decode m_TM_run.2.1 0 = .ok (.iload_n 1, 1) := by decide +kernel
theorem d_TM_run_1 : decode m_TM_run.2.1 1 = .ok (.ifCond .lt 10, 3) := by decide +kernel
theorem d_TM_run_4 : decode m_TM_run.2.1 4 = .ok (.iload_n 1, 1) := by decide +kernel
theorem d_TM_run_5 : decode m_TM_run.2.1 5 = .ok (.sipush 4000, 3) := by decide +kernel
theorem d_TM_run_8 : decode m_TM_run.2.1 8 = .ok (.if_icmp .le 13, 3) := by decide +kernel
theorem d_TM_run_11 : decode m_TM_run.2.1 11 = .ok (.new 47, 3) := by decide +kernel
theorem d_TM_run_14 : decode m_TM_run.2.1 14 = .ok (.dup, 1) := by decide +kernel
theorem d_TM_run_15 : decode m_TM_run.2.1 15 = .ok (.ldc 170, 2) := by decide +kernel
theorem d_TM_run_17 : decode m_TM_run.2.1 17 = .ok (.invokespecial 51, 3) := by decide +kernel
theorem d_TM_run_20 : decode m_TM_run.2.1 20 = .ok (.athrow, 1) := by decide +kernel
theorem d_TM_run_21 : decode m_TM_run.2.1 21 = .ok (.aload_n 0, 1) := by decide +kernel
theorem d_TM_run_22 : decode m_TM_run.2.1 22 = .ok (.getfield 25, 3) := by decide +kernel
theorem d_TM_run_25 : decode m_TM_run.2.1 25 = .ok (.aload_n 0, 1) := by decide +kernel
theorem d_TM_run_26 : decode m_TM_run.2.1 26 = .ok (.getfield 20, 3) := by decide +kernel
theorem d_TM_run_29 : decode m_TM_run.2.1 29 = .ok (.getfield 54, 3) := by decide +kernel
theorem d_TM_run_32 : decode m_TM_run.2.1 32 = .ok (.invokevirtual 172, 3) := by decide +kernel
theorem d_TM_run_35 : decode m_TM_run.2.1 35 = .ok (.ifCond .ne 13, 3) := by decide +kernel
theorem d_TM_run_38 : decode m_TM_run.2.1 38 = .ok (.new 47, 3) := by decide +kernel
theorem d_TM_run_41 : decode m_TM_run.2.1 41 = .ok (.dup, 1) := by decide +kernel
theorem d_TM_run_42 : decode m_TM_run.2.1 42 = .ok (.ldc 175, 2) := by decide +kernel
theorem d_TM_run_44 : decode m_TM_run.2.1 44 = .ok (.invokespecial 51, 3) := by decide +kernel
theorem d_TM_run_47 : decode m_TM_run.2.1 47 = .ok (.athrow, 1) := by decide +kernel
theorem d_TM_run_48 : decode m_TM_run.2.1 48 = .ok (.aload_n 0, 1) := by decide +kernel
theorem d_TM_run_49 : decode m_TM_run.2.1 49 = .ok (.getfield 10, 3) := by decide +kernel
theorem d_TM_run_52 : decode m_TM_run.2.1 52 = .ok (.iload_n 1, 1) := by decide +kernel
theorem d_TM_run_53 : decode m_TM_run.2.1 53 = .ok (.invokevirtual 177, 3) := by decide +kernel
theorem d_TM_run_56 : decode m_TM_run.2.1 56 = .ok (.ireturn, 1) := by decide +kernel
theorem d_TM_result_0 : decode m_TM_result.2.1 0 = .ok (.iload_n 1, 1) := by decide +kernel
theorem d_TM_result_1 : decode m_TM_result.2.1 1 = .ok (.iconst (-1), 1) := by decide +kernel
theorem d_TM_result_2 : decode m_TM_result.2.1 2 = .ok (.if_icmp .ne 12, 3) := by decide +kernel
theorem d_TM_result_5 : decode m_TM_result.2.1 5 = .ok (.aload_n 0, 1) := by decide +kernel
theorem d_TM_result_6 : decode m_TM_result.2.1 6 = .ok (.getfield 30, 3) := by decide +kernel
theorem d_TM_result_9 : decode m_TM_result.2.1 9 = .ok (.getfield 180, 3) := by decide +kernel
theorem d_TM_result_12 : decode m_TM_result.2.1 12 = .ok (.i2l, 1) := by decide +kernel
theorem d_TM_result_13 : decode m_TM_result.2.1 13 = .ok (.lreturn, 1) := by decide +kernel
theorem d_TM_result_14 : decode m_TM_result.2.1 14 = .ok (.iload_n 2, 1) := by decide +kernel
theorem d_TM_result_15 : decode m_TM_result.2.1 15 = .ok (.iconst (-1), 1) := by decide +kernel
theorem d_TM_result_16 : decode m_TM_result.2.1 16 = .ok (.if_icmp .ne 25, 3) := by decide +kernel
theorem d_TM_result_19 : decode m_TM_result.2.1 19 = .ok (.aload_n 0, 1) := by decide +kernel
theorem d_TM_result_20 : decode m_TM_result.2.1 20 = .ok (.getfield 30, 3) := by decide +kernel
theorem d_TM_result_23 : decode m_TM_result.2.1 23 = .ok (.iload_n 1, 1) := by decide +kernel
theorem d_TM_result_24 : decode m_TM_result.2.1 24 = .ok (.invokevirtual 183, 3) := by decide +kernel
theorem d_TM_result_27 : decode m_TM_result.2.1 27 = .ok (.ifCond .eq 14, 3) := by decide +kernel
theorem d_TM_result_30 : decode m_TM_result.2.1 30 = .ok (.aload_n 0, 1) := by decide +kernel
theorem d_TM_result_31 : decode m_TM_result.2.1 31 = .ok (.getfield 30, 3) := by decide +kernel
theorem d_TM_result_34 : decode m_TM_result.2.1 34 = .ok (.getfield 186, 3) := by decide +kernel
theorem d_TM_result_37 : decode m_TM_result.2.1 37 = .ok (.iload_n 1, 1) := by decide +kernel
theorem d_TM_result_38 : decode m_TM_result.2.1 38 = .ok (.iaload, 1) := by decide +kernel
theorem d_TM_result_39 : decode m_TM_result.2.1 39 = .ok (.i2l, 1) := by decide +kernel
theorem d_TM_result_40 : decode m_TM_result.2.1 40 = .ok (.lreturn, 1) := by decide +kernel
theorem d_TM_result_41 : decode m_TM_result.2.1 41 = .ok (.aload_n 0, 1) := by decide +kernel
theorem d_TM_result_42 : decode m_TM_result.2.1 42 = .ok (.getfield 30, 3) := by decide +kernel
theorem d_TM_result_45 : decode m_TM_result.2.1 45 = .ok (.getfield 190, 3) := by decide +kernel
theorem d_TM_result_48 : decode m_TM_result.2.1 48 = .ok (.aload_n 0, 1) := by decide +kernel
theorem d_TM_result_49 : decode m_TM_result.2.1 49 = .ok (.iload_n 1, 1) := by decide +kernel
theorem d_TM_result_50 : decode m_TM_result.2.1 50 = .ok (.iload_n 2, 1) := by decide +kernel
theorem d_TM_result_51 : decode m_TM_result.2.1 51 = .ok (.invokevirtual 191, 3) := by decide +kernel
theorem d_TM_result_54 : decode m_TM_result.2.1 54 = .ok (.invokevirtual 133, 3) := by decide +kernel
theorem d_TM_result_57 : decode m_TM_result.2.1 57 = .ok (.lreturn, 1) := by decide +kernel
theorem d_TM_requireResult_0 : decode m_TM_requireResult.2.1 0 = .ok (.aload_n 0, 1) := by decide +kernel
theorem d_TM_requireResult_1 : decode m_TM_requireResult.2.1 1 = .ok (.getfield 30, 3) := by decide +kernel
theorem d_TM_requireResult_4 : decode m_TM_requireResult.2.1 4 = .ok (.iload_n 1, 1) := by decide +kernel
theorem d_TM_requireResult_5 : decode m_TM_requireResult.2.1 5 = .ok (.invokevirtual 183, 3) := by decide +kernel
theorem d_TM_requireResult_8 : decode m_TM_requireResult.2.1 8 = .ok (.ifCond .eq 19, 3) := by decide +kernel
theorem d_TM_requireResult_11 : decode m_TM_requireResult.2.1 11 = .ok (.iload_n 2, 1) := by decide +kernel
theorem d_TM_requireResult_12 : decode m_TM_requireResult.2.1 12 = .ok (.aload_n 0, 1) := by decide +kernel
theorem d_TM_requireResult_13 : decode m_TM_requireResult.2.1 13 = .ok (.getfield 30, 3) := by decide +kernel
theorem d_TM_requireResult_16 : decode m_TM_requireResult.2.1 16 = .ok (.getfield 186, 3) := by decide +kernel
theorem d_TM_requireResult_19 : decode m_TM_requireResult.2.1 19 = .ok (.iload_n 1, 1) := by decide +kernel
theorem d_TM_requireResult_20 : decode m_TM_requireResult.2.1 20 = .ok (.iaload, 1) := by decide +kernel
theorem d_TM_requireResult_21 : decode m_TM_requireResult.2.1 21 = .ok (.invokestatic 69, 3) := by decide +kernel
theorem d_TM_requireResult_24 : decode m_TM_requireResult.2.1 24 = .ok (.ifCond .ne 13, 3) := by decide +kernel
theorem d_TM_requireResult_27 : decode m_TM_requireResult.2.1 27 = .ok (.new 161, 3) := by decide +kernel
theorem d_TM_requireResult_30 : decode m_TM_requireResult.2.1 30 = .ok (.dup, 1) := by decide +kernel
theorem d_TM_requireResult_31 : decode m_TM_requireResult.2.1 31 = .ok (.ldc 234, 2) := by decide +kernel
theorem d_TM_requireResult_33 : decode m_TM_requireResult.2.1 33 = .ok (.invokespecial 165, 3) := by decide +kernel
theorem d_TM_requireResult_36 : decode m_TM_requireResult.2.1 36 = .ok (.athrow, 1) := by decide +kernel
theorem d_TM_requireResult_37 : decode m_TM_requireResult.2.1 37 = .ok (.iload_n 1, 1) := by decide +kernel
theorem d_TM_requireResult_38 : decode m_TM_requireResult.2.1 38 = .ok (.iconst 4, 1) := by decide +kernel
theorem d_TM_requireResult_39 : decode m_TM_requireResult.2.1 39 = .ok (.imul, 1) := by decide +kernel
theorem d_TM_requireResult_40 : decode m_TM_requireResult.2.1 40 = .ok (.iload_n 2, 1) := by decide +kernel
theorem d_TM_requireResult_41 : decode m_TM_requireResult.2.1 41 = .ok (.iadd, 1) := by decide +kernel
theorem d_TM_requireResult_42 : decode m_TM_requireResult.2.1 42 = .ok (.ireturn, 1) := by decide +kernel
theorem d_TM_wasNull_0 : decode m_TM_wasNull.2.1 0 = .ok (.aload_n 0, 1) := by decide +kernel
theorem d_TM_wasNull_1 : decode m_TM_wasNull.2.1 1 = .ok (.getfield 30, 3) := by decide +kernel
theorem d_TM_wasNull_4 : decode m_TM_wasNull.2.1 4 = .ok (.getfield 190, 3) := by decide +kernel
theorem d_TM_wasNull_7 : decode m_TM_wasNull.2.1 7 = .ok (.aload_n 0, 1) := by decide +kernel
theorem d_TM_wasNull_8 : decode m_TM_wasNull.2.1 8 = .ok (.iload_n 1, 1) := by decide +kernel
theorem d_TM_wasNull_9 : decode m_TM_wasNull.2.1 9 = .ok (.iload_n 2, 1) := by decide +kernel
theorem d_TM_wasNull_10 : decode m_TM_wasNull.2.1 10 = .ok (.invokevirtual 191, 3) := by decide +kernel
theorem d_TM_wasNull_13 : decode m_TM_wasNull.2.1 13 = .ok (.invokevirtual 137, 3) := by decide +kernel
theorem d_TM_wasNull_16 : decode m_TM_wasNull.2.1 16 = .ok (.ifCond .ne 7, 3) := by decide +kernel
theorem d_TM_wasNull_19 : decode m_TM_wasNull.2.1 19 = .ok (.iconst 1, 1) := by decide +kernel
theorem d_TM_wasNull_20 : decode m_TM_wasNull.2.1 20 = .ok (.goto 4, 3) := by decide +kernel
theorem d_TM_wasNull_23 : decode m_TM_wasNull.2.1 23 = .ok (.iconst 0, 1) := by decide +kernel
theorem d_TM_wasNull_24 : decode m_TM_wasNull.2.1 24 = .ok (.ireturn, 1) := by decide +kernel
theorem d_TM_compile_0 : decode m_TM_compile.2.1 0 = .ok (.aload_n 0, 1) := by decide +kernel
theorem d_TM_compile_1 : decode m_TM_compile.2.1 1 = .ok (.getfield 43, 3) := by decide +kernel
theorem d_TM_compile_4 : decode m_TM_compile.2.1 4 = .ok (.getfield 197, 3) := by decide +kernel
theorem d_TM_compile_7 : decode m_TM_compile.2.1 7 = .ok (.ifCond .ne 13, 3) := by decide +kernel
theorem d_TM_compile_10 : decode m_TM_compile.2.1 10 = .ok (.new 60, 3) := by decide +kernel
theorem d_TM_compile_13 : decode m_TM_compile.2.1 13 = .ok (.dup, 1) := by decide +kernel
theorem d_TM_compile_14 : decode m_TM_compile.2.1 14 = .ok (.ldc 215, 2) := by decide +kernel
theorem d_TM_compile_16 : decode m_TM_compile.2.1 16 = .ok (.invokespecial 64, 3) := by decide +kernel
theorem d_TM_compile_19 : decode m_TM_compile.2.1 19 = .ok (.athrow, 1) := by decide +kernel
theorem d_TM_compile_20 : decode m_TM_compile.2.1 20 = .ok (.aload_n 0, 1) := by decide +kernel
theorem d_TM_compile_21 : decode m_TM_compile.2.1 21 = .ok (.getfield 43, 3) := by decide +kernel
theorem d_TM_compile_24 : decode m_TM_compile.2.1 24 = .ok (.aload_n 0, 1) := by decide +kernel
theorem d_TM_compile_25 : decode m_TM_compile.2.1 25 = .ok (.getfield 25, 3) := by decide +kernel
theorem d_TM_compile_28 : decode m_TM_compile.2.1 28 = .ok (.iconst 0, 1) := by decide +kernel
theorem d_TM_compile_29 : decode m_TM_compile.2.1 29 = .ok (.invokevirtual 217, 3) := by decide +kernel
theorem d_TM_compile_32 : decode m_TM_compile.2.1 32 = .ok (.aload_n 0, 1) := by decide +kernel
theorem d_TM_compile_33 : decode m_TM_compile.2.1 33 = .ok (.getfield 43, 3) := by decide +kernel
theorem d_TM_compile_36 : decode m_TM_compile.2.1 36 = .ok (.aload_n 0, 1) := by decide +kernel
theorem d_TM_compile_37 : decode m_TM_compile.2.1 37 = .ok (.getfield 25, 3) := by decide +kernel
theorem d_TM_compile_40 : decode m_TM_compile.2.1 40 = .ok (.aload_n 0, 1) := by decide +kernel
theorem d_TM_compile_41 : decode m_TM_compile.2.1 41 = .ok (.getfield 25, 3) := by decide +kernel
theorem d_TM_compile_44 : decode m_TM_compile.2.1 44 = .ok (.getfield 148, 3) := by decide +kernel
theorem d_TM_compile_47 : decode m_TM_compile.2.1 47 = .ok (.invokevirtual 217, 3) := by decide +kernel
theorem d_TM_compile_50 : decode m_TM_compile.2.1 50 = .ok (.aload_n 0, 1) := by decide +kernel
theorem d_TM_compile_51 : decode m_TM_compile.2.1 51 = .ok (.getfield 25, 3) := by decide +kernel
theorem d_TM_compile_54 : decode m_TM_compile.2.1 54 = .ok (.getfield 148, 3) := by decide +kernel
theorem d_TM_compile_57 : decode m_TM_compile.2.1 57 = .ok (.ireturn, 1) := by decide +kernel
end
section
theorem d_Mac_init_0 : decode m_Mac_init.2.1 0 = .ok (.aload_n 0, 1) := by decide +kernel
theorem d_Mac_init_1 : decode m_Mac_init.2.1 1 = .ok (.invokespecial 3, 3) := by decide +kernel
theorem d_Mac_init_4 : decode m_Mac_init.2.1 4 = .ok (.aload_n 0, 1) := by decide +kernel
theorem d_Mac_init_5 : decode m_Mac_init.2.1 5 = .ok (.new 9, 3) := by decide +kernel
theorem d_Mac_init_8 : decode m_Mac_init.2.1 8 = .ok (.dup, 1) := by decide +kernel
theorem d_Mac_init_9 : decode m_Mac_init.2.1 9 = .ok (.invokespecial 11, 3) := by decide +kernel
theorem d_Mac_init_12 : decode m_Mac_init.2.1 12 = .ok (.putfield 12, 3) := by decide +kernel
theorem d_Mac_init_15 : decode m_Mac_init.2.1 15 = .ok (.aload_n 0, 1) := by decide +kernel
theorem d_Mac_init_16 : decode m_Mac_init.2.1 16 = .ok (.new 18, 3) := by decide +kernel
theorem d_Mac_init_19 : decode m_Mac_init.2.1 19 = .ok (.dup, 1) := by decide +kernel
theorem d_Mac_init_20 : decode m_Mac_init.2.1 20 = .ok (.invokespecial 20, 3) := by decide +kernel
theorem d_Mac_init_23 : decode m_Mac_init.2.1 23 = .ok (.putfield 21, 3) := by decide +kernel
theorem d_Mac_init_26 : decode m_Mac_init.2.1 26 = .ok (.aload_n 0, 1) := by decide +kernel
theorem d_Mac_init_27 : decode m_Mac_init.2.1 27 = .ok (.new 25, 3) := by decide +kernel
theorem d_Mac_init_30 : decode m_Mac_init.2.1 30 = .ok (.dup, 1) := by decide +kernel
theorem d_Mac_init_31 : decode m_Mac_init.2.1 31 = .ok (.invokespecial 27, 3) := by decide +kernel
theorem d_Mac_init_34 : decode m_Mac_init.2.1 34 = .ok (.putfield 28, 3) := by decide +kernel
theorem d_Mac_init_37 : decode m_Mac_init.2.1 37 = .ok (.aload_n 0, 1) := by decide +kernel
theorem d_Mac_init_38 : decode m_Mac_init.2.1 38 = .ok (.new 32, 3) := by decide +kernel
theorem d_Mac_init_41 : decode m_Mac_init.2.1 41 = .ok (.dup, 1) := by decide +kernel
theorem d_Mac_init_42 : decode m_Mac_init.2.1 42 = .ok (.bipush 16, 2) := by decide +kernel
theorem d_Mac_init_44 : decode m_Mac_init.2.1 44 = .ok (.invokespecial 34, 3) := by decide +kernel
theorem d_Mac_init_47 : decode m_Mac_init.2.1 47 = .ok (.putfield 37, 3) := by decide +kernel
theorem d_Mac_init_50 : decode m_Mac_init.2.1 50 = .ok (.aload_n 0, 1) := by decide +kernel
theorem d_Mac_init_51 : decode m_Mac_init.2.1 51 = .ok (.iconst 3, 1) := by decide +kernel
theorem d_Mac_init_52 : decode m_Mac_init.2.1 52 = .ok (.anewarray 41, 3) := by decide +kernel
theorem d_Mac_init_55 : decode m_Mac_init.2.1 55 = .ok (.putfield 43, 3) := by decide +kernel
theorem d_Mac_init_58 : decode m_Mac_init.2.1 58 = .ok (.aload_n 0, 1) := by decide +kernel
theorem d_Mac_init_59 : decode m_Mac_init.2.1 59 = .ok (.iconst 0, 1) := by decide +kernel
theorem d_Mac_init_60 : decode m_Mac_init.2.1 60 = .ok (.putfield 47, 3) := by decide +kernel
theorem d_Mac_init_63 : decode m_Mac_init.2.1 63 = .ok (.iconst 0, 1) := by decide +kernel
theorem d_Mac_init_64 : decode m_Mac_init.2.1 64 = .ok (.istore_n 1, 1) := by decide +kernel
theorem d_Mac_init_65 : decode m_Mac_init.2.1 65 = .ok (.iload_n 1, 1) := by decide +kernel
theorem d_Mac_init_66 : decode m_Mac_init.2.1 66 = .ok (.iconst 3, 1) := by decide +kernel
theorem d_Mac_init_67 : decode m_Mac_init.2.1 67 = .ok (.if_icmp .ge 22, 3) := by decide +kernel
theorem d_Mac_init_70 : decode m_Mac_init.2.1 70 = .ok (.aload_n 0, 1) := by decide +kernel
theorem d_Mac_init_71 : decode m_Mac_init.2.1 71 = .ok (.getfield 43, 3) := by decide +kernel
theorem d_Mac_init_74 : decode m_Mac_init.2.1 74 = .ok (.iload_n 1, 1) := by decide +kernel
theorem d_Mac_init_75 : decode m_Mac_init.2.1 75 = .ok (.new 41, 3) := by decide +kernel
theorem d_Mac_init_78 : decode m_Mac_init.2.1 78 = .ok (.dup, 1) := by decide +kernel
theorem d_Mac_init_79 : decode m_Mac_init.2.1 79 = .ok (.invokespecial 51, 3) := by decide +kernel
theorem d_Mac_init_82 : decode m_Mac_init.2.1 82 = .ok (.aastore, 1) := by decide +kernel
theorem d_Mac_init_83 : decode m_Mac_init.2.1 83 = .ok (.iinc 1 1, 3) := by decide +kernel
theorem d_Mac_init_86 : decode m_Mac_init.2.1 86 = .ok (.goto (-21), 3) := by decide +kernel
theorem d_Mac_init_89 : decode m_Mac_init.2.1 89 = .ok (.return_, 1) := by decide +kernel
theorem d_Mac_execute_0 : decode m_Mac_execute.2.1 0 = .ok (.aload_n 0, 1) := by decide +kernel
theorem d_Mac_execute_1 : decode m_Mac_execute.2.1 1 = .ok (.invokevirtual 52, 3) := by decide +kernel
theorem d_Mac_execute_4 : decode m_Mac_execute.2.1 4 = .ok (.iconst 0, 1) := by decide +kernel
theorem d_Mac_execute_5 : decode m_Mac_execute.2.1 5 = .ok (.istore_n 2, 1) := by decide +kernel
theorem d_Mac_execute_6 : decode m_Mac_execute.2.1 6 = .ok (.iconst 0, 1) := by decide +kernel
theorem d_Mac_execute_7 : decode m_Mac_execute.2.1 7 = .ok (.istore_n 3, 1) := by decide +kernel
theorem d_Mac_execute_8 : decode m_Mac_execute.2.1 8 = .ok (.iload_n 3, 1) := by decide +kernel
theorem d_Mac_execute_9 : decode m_Mac_execute.2.1 9 = .ok (.iload_n 1, 1) := by decide +kernel
theorem d_Mac_execute_10 : decode m_Mac_execute.2.1 10 = .ok (.if_icmp .ge 57, 3) := by decide +kernel
theorem d_Mac_execute_13 : decode m_Mac_execute.2.1 13 = .ok (.iload_n 2, 1) := by decide +kernel
theorem d_Mac_execute_14 : decode m_Mac_execute.2.1 14 = .ok (.aload_n 0, 1) := by decide +kernel
theorem d_Mac_execute_15 : decode m_Mac_execute.2.1 15 = .ok (.getfield 21, 3) := by decide +kernel
theorem d_Mac_execute_18 : decode m_Mac_execute.2.1 18 = .ok (.getfield 55, 3) := by decide +kernel
theorem d_Mac_execute_21 : decode m_Mac_execute.2.1 21 = .ok (.if_icmp .ge 46, 3) := by decide +kernel
theorem d_Mac_execute_24 : decode m_Mac_execute.2.1 24 = .ok (.aload_n 0, 1) := by decide +kernel
theorem d_Mac_execute_25 : decode m_Mac_execute.2.1 25 = .ok (.getfield 21, 3) := by decide +kernel
theorem d_Mac_execute_28 : decode m_Mac_execute.2.1 28 = .ok (.iload_n 2, 1) := by decide +kernel
theorem d_Mac_execute_29 : decode m_Mac_execute.2.1 29 = .ok (.iconst 0, 1) := by decide +kernel
theorem d_Mac_execute_30 : decode m_Mac_execute.2.1 30 = .ok (.invokevirtual 58, 3) := by decide +kernel
theorem d_Mac_execute_33 : decode m_Mac_execute.2.1 33 = .ok (.istore 4, 2) := by decide +kernel
theorem d_Mac_execute_35 : decode m_Mac_execute.2.1 35 = .ok (.iload 4, 2) := by decide +kernel
theorem d_Mac_execute_37 : decode m_Mac_execute.2.1 37 = .ok (.invokestatic 62, 3) := by decide +kernel
theorem d_Mac_execute_40 : decode m_Mac_execute.2.1 40 = .ok (.ifCond .eq 13, 3) := by decide +kernel
theorem d_Mac_execute_43 : decode m_Mac_execute.2.1 43 = .ok (.aload_n 0, 1) := by decide +kernel
theorem d_Mac_execute_44 : decode m_Mac_execute.2.1 44 = .ok (.iload 4, 2) := by decide +kernel
theorem d_Mac_execute_46 : decode m_Mac_execute.2.1 46 = .ok (.iload_n 2, 1) := by decide +kernel
theorem d_Mac_execute_47 : decode m_Mac_execute.2.1 47 = .ok (.invokevirtual 68, 3) := by decide +kernel
theorem d_Mac_execute_50 : decode m_Mac_execute.2.1 50 = .ok (.goto 10, 3) := by decide +kernel
theorem d_Mac_execute_53 : decode m_Mac_execute.2.1 53 = .ok (.aload_n 0, 1) := by decide +kernel
theorem d_Mac_execute_54 : decode m_Mac_execute.2.1 54 = .ok (.iload 4, 2) := by decide +kernel
theorem d_Mac_execute_56 : decode m_Mac_execute.2.1 56 = .ok (.iload_n 2, 1) := by decide +kernel
theorem d_Mac_execute_57 : decode m_Mac_execute.2.1 57 = .ok (.invokevirtual 71, 3) := by decide +kernel
theorem d_Mac_execute_60 : decode m_Mac_execute.2.1 60 = .ok (.istore_n 2, 1) := by decide +kernel
theorem d_Mac_execute_61 : decode m_Mac_execute.2.1 61 = .ok (.iinc 3 1, 3) := by decide +kernel
theorem d_Mac_execute_64 : decode m_Mac_execute.2.1 64 = .ok (.goto (-56), 3) := by decide +kernel
theorem d_Mac_execute_67 : decode m_Mac_execute.2.1 67 = .ok (.iload_n 2, 1) := by decide +kernel
theorem d_Mac_execute_68 : decode m_Mac_execute.2.1 68 = .ok (.aload_n 0, 1) := by decide +kernel
theorem d_Mac_execute_69 : decode m_Mac_execute.2.1 69 = .ok (.getfield 21, 3) := by decide +kernel
theorem d_Mac_execute_72 : decode m_Mac_execute.2.1 72 = .ok (.getfield 55, 3) := by decide +kernel
theorem d_Mac_execute_75 : decode m_Mac_execute.2.1 75 = .ok (.if_icmp .ge 7, 3) := by decide +kernel
theorem d_Mac_execute_78 : decode m_Mac_execute.2.1 78 = .ok (.iconst 1, 1) := by decide +kernel
theorem d_Mac_execute_79 : decode m_Mac_execute.2.1 79 = .ok (.goto 7, 3) := by decide +kernel
theorem d_Mac_execute_82 : decode m_Mac_execute.2.1 82 = .ok (.aload_n 0, 1) := by decide +kernel
theorem d_Mac_execute_83 : decode m_Mac_execute.2.1 83 = .ok (.getfield 47, 3) := by decide +kernel
theorem d_Mac_execute_86 : decode m_Mac_execute.2.1 86 = .ok (.ireturn, 1) := by decide +kernel
theorem d_Mac_reset_0 : decode m_Mac_reset.2.1 0 = .ok (.aload_n 0, 1) := by decide +kernel
theorem d_Mac_reset_1 : decode m_Mac_reset.2.1 1 = .ok (.getfield 37, 3) := by decide +kernel
theorem d_Mac_reset_4 : decode m_Mac_reset.2.1 4 = .ok (.invokevirtual 74, 3) := by decide +kernel
theorem d_Mac_reset_7 : decode m_Mac_reset.2.1 7 = .ok (.iconst 0, 1) := by decide +kernel
theorem d_Mac_reset_8 : decode m_Mac_reset.2.1 8 = .ok (.istore_n 1, 1) := by decide +kernel
theorem d_Mac_reset_9 : decode m_Mac_reset.2.1 9 = .ok (.iload_n 1, 1) := by decide +kernel
theorem d_Mac_reset_10 : decode m_Mac_reset.2.1 10 = .ok (.iconst 3, 1) := by decide +kernel
theorem d_Mac_reset_11 : decode m_Mac_reset.2.1 11 = .ok (.if_icmp .ge 18, 3) := by decide +kernel
theorem d_Mac_reset_14 : decode m_Mac_reset.2.1 14 = .ok (.aload_n 0, 1) := by decide +kernel
theorem d_Mac_reset_15 : decode m_Mac_reset.2.1 15 = .ok (.getfield 43, 3) := by decide +kernel
theorem d_Mac_reset_18 : decode m_Mac_reset.2.1 18 = .ok (.iload_n 1, 1) := by decide +kernel
theorem d_Mac_reset_19 : decode m_Mac_reset.2.1 19 = .ok (.aaload, 1) := by decide +kernel
theorem d_Mac_reset_20 : decode m_Mac_reset.2.1 20 = .ok (.invokevirtual 77, 3) := by decide +kernel
theorem d_Mac_reset_23 : decode m_Mac_reset.2.1 23 = .ok (.iinc 1 1, 3) := by decide +kernel
theorem d_Mac_reset_26 : decode m_Mac_reset.2.1 26 = .ok (.goto (-17), 3) := by decide +kernel
theorem d_Mac_reset_29 : decode m_Mac_reset.2.1 29 = .ok (.aload_n 0, 1) := by decide +kernel
theorem d_Mac_reset_30 : decode m_Mac_reset.2.1 30 = .ok (.getfield 28, 3) := by decide +kernel
theorem d_Mac_reset_33 : decode m_Mac_reset.2.1 33 = .ok (.iconst 0, 1) := by decide +kernel
theorem d_Mac_reset_34 : decode m_Mac_reset.2.1 34 = .ok (.putfield 80, 3) := by decide +kernel
theorem d_Mac_reset_37 : decode m_Mac_reset.2.1 37 = .ok (.aload_n 0, 1) := by decide +kernel
theorem d_Mac_reset_38 : decode m_Mac_reset.2.1 38 = .ok (.iconst 0, 1) := by decide +kernel
theorem d_Mac_reset_39 : decode m_Mac_reset.2.1 39 = .ok (.putfield 47, 3) := by decide +kernel
theorem d_Mac_reset_42 : decode m_Mac_reset.2.1 42 = .ok (.return_, 1) := by decide +kernel
theorem d_Mac_useCursor_0 : decode m_Mac_useCursor.2.1 0 = .ok (.aload_n 0, 1) := by decide +kernel
theorem d_Mac_useCursor_1 : decode m_Mac_useCursor.2.1 1 = .ok (.getfield 43, 3) := by decide +kernel
theorem d_Mac_useCursor_4 : decode m_Mac_useCursor.2.1 4 = .ok (.aload_n 0, 1) := by decide +kernel
theorem d_Mac_useCursor_5 : decode m_Mac_useCursor.2.1 5 = .ok (.getfield 21, 3) := by decide +kernel
theorem d_Mac_useCursor_8 : decode m_Mac_useCursor.2.1 8 = .ok (.iload_n 2, 1) := by decide +kernel
theorem d_Mac_useCursor_9 : decode m_Mac_useCursor.2.1 9 = .ok (.iconst 1, 1) := by decide +kernel
theorem d_Mac_useCursor_10 : decode m_Mac_useCursor.2.1 10 = .ok (.invokevirtual 58, 3) := by decide +kernel
theorem d_Mac_useCursor_13 : decode m_Mac_useCursor.2.1 13 = .ok (.aaload, 1) := by decide +kernel
theorem d_Mac_useCursor_14 : decode m_Mac_useCursor.2.1 14 = .ok (.astore_n 3, 1) := by decide +kernel
theorem d_Mac_useCursor_15 : decode m_Mac_useCursor.2.1 15 = .ok (.aload_n 3, 1) := by decide +kernel
theorem d_Mac_useCursor_16 : decode m_Mac_useCursor.2.1 16 = .ok (.invokevirtual 81, 3) := by decide +kernel
theorem d_Mac_useCursor_19 : decode m_Mac_useCursor.2.1 19 = .ok (.ifCond .eq 9, 3) := by decide +kernel
theorem d_Mac_useCursor_22 : decode m_Mac_useCursor.2.1 22 = .ok (.aload_n 0, 1) := by decide +kernel
theorem d_Mac_useCursor_23 : decode m_Mac_useCursor.2.1 23 = .ok (.iconst 3, 1) := by decide +kernel
theorem d_Mac_useCursor_24 : decode m_Mac_useCursor.2.1 24 = .ok (.invokevirtual 85, 3) := by decide +kernel
theorem d_Mac_useCursor_27 : decode m_Mac_useCursor.2.1 27 = .ok (.ireturn, 1) := by decide +kernel
theorem d_Mac_useCursor_28 : decode m_Mac_useCursor.2.1 28 = .ok (.aload_n 0, 1) := by decide +kernel
theorem d_Mac_useCursor_29 : decode m_Mac_useCursor.2.1 29 = .ok (.getfield 21, 3) := by decide +kernel
theorem d_Mac_useCursor_32 : decode m_Mac_useCursor.2.1 32 = .ok (.iload_n 2, 1) := by decide +kernel
theorem d_Mac_useCursor_33 : decode m_Mac_useCursor.2.1 33 = .ok (.iconst 2, 1) := by decide +kernel
theorem d_Mac_useCursor_34 : decode m_Mac_useCursor.2.1 34 = .ok (.invokevirtual 58, 3) := by decide +kernel
theorem d_Mac_useCursor_37 : decode m_Mac_useCursor.2.1 37 = .ok (.istore 4, 2) := by decide +kernel
theorem d_Mac_useCursor_39 : decode m_Mac_useCursor.2.1 39 = .ok (.aload_n 0, 1) := by decide +kernel
theorem d_Mac_useCursor_40 : decode m_Mac_useCursor.2.1 40 = .ok (.getfield 21, 3) := by decide +kernel
theorem d_Mac_useCursor_43 : decode m_Mac_useCursor.2.1 43 = .ok (.iload_n 2, 1) := by decide +kernel
theorem d_Mac_useCursor_44 : decode m_Mac_useCursor.2.1 44 = .ok (.iconst 3, 1) := by decide +kernel
theorem d_Mac_useCursor_45 : decode m_Mac_useCursor.2.1 45 = .ok (.invokevirtual 58, 3) := by decide +kernel
theorem d_Mac_useCursor_48 : decode m_Mac_useCursor.2.1 48 = .ok (.istore 5, 2) := by decide +kernel
theorem d_Mac_useCursor_50 : decode m_Mac_useCursor.2.1 50 = .ok (.iload_n 2, 1) := by decide +kernel
theorem d_Mac_useCursor_51 : decode m_Mac_useCursor.2.1 51 = .ok (.iconst 1, 1) := by decide +kernel
theorem d_Mac_useCursor_52 : decode m_Mac_useCursor.2.1 52 = .ok (.iadd, 1) := by decide +kernel
theorem d_Mac_useCursor_53 : decode m_Mac_useCursor.2.1 53 = .ok (.istore 6, 2) := by decide +kernel
theorem d_Mac_useCursor_55 : decode m_Mac_useCursor.2.1 55 = .ok (.iload_n 1, 1) := by decide +kernel
theorem d_Mac_useCursor_56 : decode m_Mac_useCursor.2.1 56 = .ok (.tableswitch 183 2 20 #[92, 109, 125, 137, 183, 183, 147, 183, 183, 183, 183, 183, 183, 183, 183, 183, 183, 183, 165], 92) := by decide +kernel
theorem d_Mac_useCursor_148 : decode m_Mac_useCursor.2.1 148 = .ok (.aload_n 0, 1) := by decide +kernel
theorem d_Mac_useCursor_149 : decode m_Mac_useCursor.2.1 149 = .ok (.aload_n 3, 1) := by decide +kernel
theorem d_Mac_useCursor_150 : decode m_Mac_useCursor.2.1 150 = .ok (.iconst 0, 1) := by decide +kernel
theorem d_Mac_useCursor_151 : decode m_Mac_useCursor.2.1 151 = .ok (.invokevirtual 89, 3) := by decide +kernel
theorem d_Mac_useCursor_154 : decode m_Mac_useCursor.2.1 154 = .ok (.ifCond .eq 8, 3) := by decide +kernel
theorem d_Mac_useCursor_157 : decode m_Mac_useCursor.2.1 157 = .ok (.iload 6, 2) := by decide +kernel
theorem d_Mac_useCursor_159 : decode m_Mac_useCursor.2.1 159 = .ok (.goto 5, 3) := by decide +kernel
theorem d_Mac_useCursor_162 : decode m_Mac_useCursor.2.1 162 = .ok (.iload 4, 2) := by decide +kernel
theorem d_Mac_useCursor_164 : decode m_Mac_useCursor.2.1 164 = .ok (.ireturn, 1) := by decide +kernel
theorem d_Mac_useCursor_165 : decode m_Mac_useCursor.2.1 165 = .ok (.aload_n 0, 1) := by decide +kernel
theorem d_Mac_useCursor_166 : decode m_Mac_useCursor.2.1 166 = .ok (.aload_n 3, 1) := by decide +kernel
theorem d_Mac_useCursor_167 : decode m_Mac_useCursor.2.1 167 = .ok (.invokevirtual 93, 3) := by decide +kernel
theorem d_Mac_useCursor_170 : decode m_Mac_useCursor.2.1 170 = .ok (.ifCond .eq 8, 3) := by decide +kernel
theorem d_Mac_useCursor_173 : decode m_Mac_useCursor.2.1 173 = .ok (.iload 4, 2) := by decide +kernel
theorem d_Mac_useCursor_175 : decode m_Mac_useCursor.2.1 175 = .ok (.goto 5, 3) := by decide +kernel
theorem d_Mac_useCursor_178 : decode m_Mac_useCursor.2.1 178 = .ok (.iload 6, 2) := by decide +kernel
theorem d_Mac_useCursor_180 : decode m_Mac_useCursor.2.1 180 = .ok (.ireturn, 1) := by decide +kernel
theorem d_Mac_useCursor_181 : decode m_Mac_useCursor.2.1 181 = .ok (.aload_n 0, 1) := by decide +kernel
theorem d_Mac_useCursor_182 : decode m_Mac_useCursor.2.1 182 = .ok (.aload_n 3, 1) := by decide +kernel
theorem d_Mac_useCursor_183 : decode m_Mac_useCursor.2.1 183 = .ok (.iload 4, 2) := by decide +kernel
theorem d_Mac_useCursor_185 : decode m_Mac_useCursor.2.1 185 = .ok (.iload 5, 2) := by decide +kernel
theorem d_Mac_useCursor_187 : decode m_Mac_useCursor.2.1 187 = .ok (.invokevirtual 97, 3) := by decide +kernel
theorem d_Mac_useCursor_190 : decode m_Mac_useCursor.2.1 190 = .ok (.iload 6, 2) := by decide +kernel
theorem d_Mac_useCursor_192 : decode m_Mac_useCursor.2.1 192 = .ok (.ireturn, 1) := by decide +kernel
theorem d_Mac_useCursor_193 : decode m_Mac_useCursor.2.1 193 = .ok (.aload_n 0, 1) := by decide +kernel
theorem d_Mac_useCursor_194 : decode m_Mac_useCursor.2.1 194 = .ok (.aload_n 3, 1) := by decide +kernel
theorem d_Mac_useCursor_195 : decode m_Mac_useCursor.2.1 195 = .ok (.iload 4, 2) := by decide +kernel
theorem d_Mac_useCursor_197 : decode m_Mac_useCursor.2.1 197 = .ok (.invokevirtual 101, 3) := by decide +kernel
theorem d_Mac_useCursor_200 : decode m_Mac_useCursor.2.1 200 = .ok (.iload 6, 2) := by decide +kernel
theorem d_Mac_useCursor_202 : decode m_Mac_useCursor.2.1 202 = .ok (.ireturn, 1) := by decide +kernel
theorem d_Mac_useCursor_203 : decode m_Mac_useCursor.2.1 203 = .ok (.aload_n 0, 1) := by decide +kernel
theorem d_Mac_useCursor_204 : decode m_Mac_useCursor.2.1 204 = .ok (.aload_n 3, 1) := by decide +kernel
theorem d_Mac_useCursor_205 : decode m_Mac_useCursor.2.1 205 = .ok (.iload 5, 2) := by decide +kernel
theorem d_Mac_useCursor_207 : decode m_Mac_useCursor.2.1 207 = .ok (.invokevirtual 105, 3) := by decide +kernel
theorem d_Mac_useCursor_210 : decode m_Mac_useCursor.2.1 210 = .ok (.ifCond .eq 8, 3) := by decide +kernel
theorem d_Mac_useCursor_213 : decode m_Mac_useCursor.2.1 213 = .ok (.iload 6, 2) := by decide +kernel
theorem d_Mac_useCursor_215 : decode m_Mac_useCursor.2.1 215 = .ok (.goto 5, 3) := by decide +kernel
theorem d_Mac_useCursor_218 : decode m_Mac_useCursor.2.1 218 = .ok (.iload 4, 2) := by decide +kernel
theorem d_Mac_useCursor_220 : decode m_Mac_useCursor.2.1 220 = .ok (.ireturn, 1) := by decide +kernel
theorem d_Mac_useCursor_221 : decode m_Mac_useCursor.2.1 221 = .ok (.aload_n 0, 1) := by decide +kernel
theorem d_Mac_useCursor_222 : decode m_Mac_useCursor.2.1 222 = .ok (.aload_n 3, 1) := by decide +kernel
theorem d_Mac_useCursor_223 : decode m_Mac_useCursor.2.1 223 = .ok (.iload 5, 2) := by decide +kernel
theorem d_Mac_useCursor_225 : decode m_Mac_useCursor.2.1 225 = .ok (.invokevirtual 108, 3) := by decide +kernel
theorem d_Mac_useCursor_228 : decode m_Mac_useCursor.2.1 228 = .ok (.ifCond .eq 8, 3) := by decide +kernel
theorem d_Mac_useCursor_231 : decode m_Mac_useCursor.2.1 231 = .ok (.iload 6, 2) := by decide +kernel
theorem d_Mac_useCursor_233 : decode m_Mac_useCursor.2.1 233 = .ok (.goto 5, 3) := by decide +kernel
theorem d_Mac_useCursor_236 : decode m_Mac_useCursor.2.1 236 = .ok (.iload 4, 2) := by decide +kernel
theorem d_Mac_useCursor_238 : decode m_Mac_useCursor.2.1 238 = .ok (.ireturn, 1) := by decide +kernel
theorem d_Mac_useCursor_239 : decode m_Mac_useCursor.2.1 239 = .ok (.aload_n 0, 1) := by decide +kernel
theorem d_Mac_useCursor_240 : decode m_Mac_useCursor.2.1 240 = .ok (.aload_n 3, 1) := by decide +kernel
theorem d_Mac_useCursor_241 : decode m_Mac_useCursor.2.1 241 = .ok (.invokevirtual 111, 3) := by decide +kernel
theorem d_Mac_useCursor_244 : decode m_Mac_useCursor.2.1 244 = .ok (.iload 6, 2) := by decide +kernel
theorem d_Mac_useCursor_246 : decode m_Mac_useCursor.2.1 246 = .ok (.ireturn, 1) := by decide +kernel
theorem d_Mac_end_0 : decode m_Mac_end.2.1 0 = .ok (.aload_n 0, 1) := by decide +kernel
theorem d_Mac_end_1 : decode m_Mac_end.2.1 1 = .ok (.iload_n 1, 1) := by decide +kernel
theorem d_Mac_end_2 : decode m_Mac_end.2.1 2 = .ok (.putfield 47, 3) := by decide +kernel
theorem d_Mac_end_5 : decode m_Mac_end.2.1 5 = .ok (.aload_n 0, 1) := by decide +kernel
theorem d_Mac_end_6 : decode m_Mac_end.2.1 6 = .ok (.getfield 21, 3) := by decide +kernel
theorem d_Mac_end_9 : decode m_Mac_end.2.1 9 = .ok (.getfield 55, 3) := by decide +kernel
theorem d_Mac_end_12 : decode m_Mac_end.2.1 12 = .ok (.ireturn, 1) := by decide +kernel
theorem d_Mac_moveTo_0 : decode m_Mac_moveTo.2.1 0 = .ok (.aload_n 1, 1) := by decide +kernel
theorem d_Mac_moveTo_1 : decode m_Mac_moveTo.2.1 1 = .ok (.aload_n 0, 1) := by decide +kernel
theorem d_Mac_moveTo_2 : decode m_Mac_moveTo.2.1 2 = .ok (.getfield 12, 3) := by decide +kernel
theorem d_Mac_moveTo_5 : decode m_Mac_moveTo.2.1 5 = .ok (.aload_n 1, 1) := by decide +kernel
theorem d_Mac_moveTo_6 : decode m_Mac_moveTo.2.1 6 = .ok (.getfield 140, 3) := by decide +kernel
theorem d_Mac_moveTo_9 : decode m_Mac_moveTo.2.1 9 = .ok (.iload_n 2, 1) := by decide +kernel
theorem d_Mac_moveTo_10 : decode m_Mac_moveTo.2.1 10 = .ok (.invokevirtual 143, 3) := by decide +kernel
theorem d_Mac_moveTo_13 : decode m_Mac_moveTo.2.1 13 = .ok (.putfield 147, 3) := by decide +kernel
theorem d_Mac_moveTo_16 : decode m_Mac_moveTo.2.1 16 = .ok (.aload_n 1, 1) := by decide +kernel
theorem d_Mac_moveTo_17 : decode m_Mac_moveTo.2.1 17 = .ok (.getfield 147, 3) := by decide +kernel
theorem d_Mac_moveTo_20 : decode m_Mac_moveTo.2.1 20 = .ok (.ifCond .eq 19, 3) := by decide +kernel
theorem d_Mac_moveTo_23 : decode m_Mac_moveTo.2.1 23 = .ok (.aload_n 1, 1) := by decide +kernel
theorem d_Mac_moveTo_24 : decode m_Mac_moveTo.2.1 24 = .ok (.aload_n 0, 1) := by decide +kernel
theorem d_Mac_moveTo_25 : decode m_Mac_moveTo.2.1 25 = .ok (.getfield 12, 3) := by decide +kernel
theorem d_Mac_moveTo_28 : decode m_Mac_moveTo.2.1 28 = .ok (.aload_n 1, 1) := by decide +kernel
theorem d_Mac_moveTo_29 : decode m_Mac_moveTo.2.1 29 = .ok (.getfield 140, 3) := by decide +kernel
theorem d_Mac_moveTo_32 : decode m_Mac_moveTo.2.1 32 = .ok (.iload_n 2, 1) := by decide +kernel
theorem d_Mac_moveTo_33 : decode m_Mac_moveTo.2.1 33 = .ok (.invokevirtual 151, 3) := by decide +kernel
theorem d_Mac_moveTo_36 : decode m_Mac_moveTo.2.1 36 = .ok (.putfield 155, 3) := by decide +kernel
theorem d_Mac_moveTo_39 : decode m_Mac_moveTo.2.1 39 = .ok (.aload_n 1, 1) := by decide +kernel
theorem d_Mac_moveTo_40 : decode m_Mac_moveTo.2.1 40 = .ok (.getfield 147, 3) := by decide +kernel
theorem d_Mac_moveTo_43 : decode m_Mac_moveTo.2.1 43 = .ok (.ireturn, 1) := by decide +kernel
theorem d_Mac_advance_0 : decode m_Mac_advance.2.1 0 = .ok (.aload_n 1, 1) := by decide +kernel
theorem d_Mac_advance_1 : decode m_Mac_advance.2.1 1 = .ok (.getfield 147, 3) := by decide +kernel
theorem d_Mac_advance_4 : decode m_Mac_advance.2.1 4 = .ok (.ifCond .ne 5, 3) := by decide +kernel
theorem d_Mac_advance_7 : decode m_Mac_advance.2.1 7 = .ok (.iconst 0, 1) := by decide +kernel
theorem d_Mac_advance_8 : decode m_Mac_advance.2.1 8 = .ok (.ireturn, 1) := by decide +kernel
theorem d_Mac_advance_9 : decode m_Mac_advance.2.1 9 = .ok (.aload_n 0, 1) := by decide +kernel
theorem d_Mac_advance_10 : decode m_Mac_advance.2.1 10 = .ok (.getfield 12, 3) := by decide +kernel
theorem d_Mac_advance_13 : decode m_Mac_advance.2.1 13 = .ok (.aload_n 1, 1) := by decide +kernel
theorem d_Mac_advance_14 : decode m_Mac_advance.2.1 14 = .ok (.getfield 140, 3) := by decide +kernel
theorem d_Mac_advance_17 : decode m_Mac_advance.2.1 17 = .ok (.aload_n 1, 1) := by decide +kernel
theorem d_Mac_advance_18 : decode m_Mac_advance.2.1 18 = .ok (.getfield 155, 3) := by decide +kernel
theorem d_Mac_advance_21 : decode m_Mac_advance.2.1 21 = .ok (.iconst 1, 1) := by decide +kernel
theorem d_Mac_advance_22 : decode m_Mac_advance.2.1 22 = .ok (.invokevirtual 159, 3) := by decide +kernel
theorem d_Mac_advance_25 : decode m_Mac_advance.2.1 25 = .ok (.istore_n 2, 1) := by decide +kernel
theorem d_Mac_advance_26 : decode m_Mac_advance.2.1 26 = .ok (.aload_n 0, 1) := by decide +kernel
theorem d_Mac_advance_27 : decode m_Mac_advance.2.1 27 = .ok (.getfield 12, 3) := by decide +kernel
theorem d_Mac_advance_30 : decode m_Mac_advance.2.1 30 = .ok (.aload_n 1, 1) := by decide +kernel
theorem d_Mac_advance_31 : decode m_Mac_advance.2.1 31 = .ok (.getfield 140, 3) := by decide +kernel
theorem d_Mac_advance_34 : decode m_Mac_advance.2.1 34 = .ok (.iload_n 2, 1) := by decide +kernel
theorem d_Mac_advance_35 : decode m_Mac_advance.2.1 35 = .ok (.invokevirtual 143, 3) := by decide +kernel
theorem d_Mac_advance_38 : decode m_Mac_advance.2.1 38 = .ok (.ifCond .eq 16, 3) := by decide +kernel
theorem d_Mac_advance_41 : decode m_Mac_advance.2.1 41 = .ok (.aload_n 0, 1) := by decide +kernel
theorem d_Mac_advance_42 : decode m_Mac_advance.2.1 42 = .ok (.aload_n 1, 1) := by decide +kernel
theorem d_Mac_advance_43 : decode m_Mac_advance.2.1 43 = .ok (.iload_n 2, 1) := by decide +kernel
theorem d_Mac_advance_44 : decode m_Mac_advance.2.1 44 = .ok (.invokevirtual 89, 3) := by decide +kernel
theorem d_Mac_advance_47 : decode m_Mac_advance.2.1 47 = .ok (.ifCond .eq 7, 3) := by decide +kernel
theorem d_Mac_advance_50 : decode m_Mac_advance.2.1 50 = .ok (.iconst 1, 1) := by decide +kernel
theorem d_Mac_advance_51 : decode m_Mac_advance.2.1 51 = .ok (.goto 4, 3) := by decide +kernel
theorem d_Mac_advance_54 : decode m_Mac_advance.2.1 54 = .ok (.iconst 0, 1) := by decide +kernel
theorem d_Mac_advance_55 : decode m_Mac_advance.2.1 55 = .ok (.ireturn, 1) := by decide +kernel
theorem d_Mac_readColumn_0 : decode m_Mac_readColumn.2.1 0 = .ok (.aload_n 0, 1) := by decide +kernel
theorem d_Mac_readColumn_1 : decode m_Mac_readColumn.2.1 1 = .ok (.aload_n 1, 1) := by decide +kernel
theorem d_Mac_readColumn_2 : decode m_Mac_readColumn.2.1 2 = .ok (.invokevirtual 171, 3) := by decide +kernel
theorem d_Mac_readColumn_5 : decode m_Mac_readColumn.2.1 5 = .ok (.istore 4, 2) := by decide +kernel
theorem d_Mac_readColumn_7 : decode m_Mac_readColumn.2.1 7 = .ok (.iload 4, 2) := by decide +kernel
theorem d_Mac_readColumn_9 : decode m_Mac_readColumn.2.1 9 = .ok (.iconst (-1), 1) := by decide +kernel
theorem d_Mac_readColumn_10 : decode m_Mac_readColumn.2.1 10 = .ok (.if_icmp .eq 18, 3) := by decide +kernel
theorem d_Mac_readColumn_13 : decode m_Mac_readColumn.2.1 13 = .ok (.aload_n 0, 1) := by decide +kernel
theorem d_Mac_readColumn_14 : decode m_Mac_readColumn.2.1 14 = .ok (.getfield 12, 3) := by decide +kernel
theorem d_Mac_readColumn_17 : decode m_Mac_readColumn.2.1 17 = .ok (.aload_n 1, 1) := by decide +kernel
theorem d_Mac_readColumn_18 : decode m_Mac_readColumn.2.1 18 = .ok (.getfield 140, 3) := by decide +kernel
theorem d_Mac_readColumn_21 : decode m_Mac_readColumn.2.1 21 = .ok (.iload_n 2, 1) := by decide +kernel
theorem d_Mac_readColumn_22 : decode m_Mac_readColumn.2.1 22 = .ok (.invokevirtual 175, 3) := by decide +kernel
theorem d_Mac_readColumn_25 : decode m_Mac_readColumn.2.1 25 = .ok (.ifCond .ne 14, 3) := by decide +kernel
theorem d_Mac_readColumn_28 : decode m_Mac_readColumn.2.1 28 = .ok (.aload_n 0, 1) := by decide +kernel
theorem d_Mac_readColumn_29 : decode m_Mac_readColumn.2.1 29 = .ok (.getfield 37, 3) := by decide +kernel
theorem d_Mac_readColumn_32 : decode m_Mac_readColumn.2.1 32 = .ok (.iload_n 3, 1) := by decide +kernel
theorem d_Mac_readColumn_33 : decode m_Mac_readColumn.2.1 33 = .ok (.invokevirtual 122, 3) := by decide +kernel
theorem d_Mac_readColumn_36 : decode m_Mac_readColumn.2.1 36 = .ok (.goto 24, 3) := by decide +kernel
theorem d_Mac_readColumn_39 : decode m_Mac_readColumn.2.1 39 = .ok (.aload_n 0, 1) := by decide +kernel
theorem d_Mac_readColumn_40 : decode m_Mac_readColumn.2.1 40 = .ok (.getfield 37, 3) := by decide +kernel
theorem d_Mac_readColumn_43 : decode m_Mac_readColumn.2.1 43 = .ok (.iload_n 3, 1) := by decide +kernel
theorem d_Mac_readColumn_44 : decode m_Mac_readColumn.2.1 44 = .ok (.aload_n 0, 1) := by decide +kernel
theorem d_Mac_readColumn_45 : decode m_Mac_readColumn.2.1 45 = .ok (.getfield 12, 3) := by decide +kernel
theorem d_Mac_readColumn_48 : decode m_Mac_readColumn.2.1 48 = .ok (.getfield 178, 3) := by decide +kernel
theorem d_Mac_readColumn_51 : decode m_Mac_readColumn.2.1 51 = .ok (.iload 4, 2) := by decide +kernel
theorem d_Mac_readColumn_53 : decode m_Mac_readColumn.2.1 53 = .ok (.iconst 4, 1) := by decide +kernel
theorem d_Mac_readColumn_54 : decode m_Mac_readColumn.2.1 54 = .ok (.imul, 1) := by decide +kernel
theorem d_Mac_readColumn_55 : decode m_Mac_readColumn.2.1 55 = .ok (.iload_n 2, 1) := by decide +kernel
theorem d_Mac_readColumn_56 : decode m_Mac_readColumn.2.1 56 = .ok (.iadd, 1) := by decide +kernel
theorem d_Mac_readColumn_57 : decode m_Mac_readColumn.2.1 57 = .ok (.invokevirtual 181, 3) := by decide +kernel
theorem d_Mac_readColumn_60 : decode m_Mac_readColumn.2.1 60 = .ok (.return_, 1) := by decide +kernel
theorem d_Mac_slotAt_0 : decode m_Mac_slotAt.2.1 0 = .ok (.aload_n 1, 1) := by decide +kernel
theorem d_Mac_slotAt_1 : decode m_Mac_slotAt.2.1 1 = .ok (.getfield 147, 3) := by decide +kernel
theorem d_Mac_slotAt_4 : decode m_Mac_slotAt.2.1 4 = .ok (.ifCond .eq 21, 3) := by decide +kernel
theorem d_Mac_slotAt_7 : decode m_Mac_slotAt.2.1 7 = .ok (.aload_n 0, 1) := by decide +kernel
theorem d_Mac_slotAt_8 : decode m_Mac_slotAt.2.1 8 = .ok (.getfield 12, 3) := by decide +kernel
theorem d_Mac_slotAt_11 : decode m_Mac_slotAt.2.1 11 = .ok (.aload_n 1, 1) := by decide +kernel
theorem d_Mac_slotAt_12 : decode m_Mac_slotAt.2.1 12 = .ok (.getfield 140, 3) := by decide +kernel
theorem d_Mac_slotAt_15 : decode m_Mac_slotAt.2.1 15 = .ok (.aload_n 1, 1) := by decide +kernel
theorem d_Mac_slotAt_16 : decode m_Mac_slotAt.2.1 16 = .ok (.getfield 155, 3) := by decide +kernel
theorem d_Mac_slotAt_19 : decode m_Mac_slotAt.2.1 19 = .ok (.invokevirtual 167, 3) := by decide +kernel
theorem d_Mac_slotAt_22 : decode m_Mac_slotAt.2.1 22 = .ok (.goto 4, 3) := by decide +kernel
theorem d_Mac_slotAt_25 : decode m_Mac_slotAt.2.1 25 = .ok (.iconst (-1), 1) := by decide +kernel
theorem d_Mac_slotAt_26 : decode m_Mac_slotAt.2.1 26 = .ok (.ireturn, 1) := by decide +kernel
theorem d_Mac_readKey_0 : decode m_Mac_readKey.2.1 0 = .ok (.aload_n 0, 1) := by decide +kernel
theorem d_Mac_readKey_1 : decode m_Mac_readKey.2.1 1 = .ok (.aload_n 1, 1) := by decide +kernel
theorem d_Mac_readKey_2 : decode m_Mac_readKey.2.1 2 = .ok (.invokevirtual 171, 3) := by decide +kernel
theorem d_Mac_readKey_5 : decode m_Mac_readKey.2.1 5 = .ok (.iconst (-1), 1) := by decide +kernel
theorem d_Mac_readKey_6 : decode m_Mac_readKey.2.1 6 = .ok (.if_icmp .ne 14, 3) := by decide +kernel
theorem d_Mac_readKey_9 : decode m_Mac_readKey.2.1 9 = .ok (.aload_n 0, 1) := by decide +kernel
theorem d_Mac_readKey_10 : decode m_Mac_readKey.2.1 10 = .ok (.getfield 37, 3) := by decide +kernel
theorem d_Mac_readKey_13 : decode m_Mac_readKey.2.1 13 = .ok (.iload_n 2, 1) := by decide +kernel
theorem d_Mac_readKey_14 : decode m_Mac_readKey.2.1 14 = .ok (.invokevirtual 122, 3) := by decide +kernel
theorem d_Mac_readKey_17 : decode m_Mac_readKey.2.1 17 = .ok (.goto 15, 3) := by decide +kernel
theorem d_Mac_readKey_20 : decode m_Mac_readKey.2.1 20 = .ok (.aload_n 0, 1) := by decide +kernel
theorem d_Mac_readKey_21 : decode m_Mac_readKey.2.1 21 = .ok (.getfield 37, 3) := by decide +kernel
theorem d_Mac_readKey_24 : decode m_Mac_readKey.2.1 24 = .ok (.iload_n 2, 1) := by decide +kernel
theorem d_Mac_readKey_25 : decode m_Mac_readKey.2.1 25 = .ok (.aload_n 1, 1) := by decide +kernel
theorem d_Mac_readKey_26 : decode m_Mac_readKey.2.1 26 = .ok (.getfield 155, 3) := by decide +kernel
theorem d_Mac_readKey_29 : decode m_Mac_readKey.2.1 29 = .ok (.invokevirtual 118, 3) := by decide +kernel
theorem d_Mac_readKey_32 : decode m_Mac_readKey.2.1 32 = .ok (.return_, 1) := by decide +kernel
theorem d_Mac_seek_0 : decode m_Mac_seek.2.1 0 = .ok (.aload_n 0, 1) := by decide +kernel
theorem d_Mac_seek_1 : decode m_Mac_seek.2.1 1 = .ok (.getfield 37, 3) := by decide +kernel
theorem d_Mac_seek_4 : decode m_Mac_seek.2.1 4 = .ok (.iload_n 2, 1) := by decide +kernel
theorem d_Mac_seek_5 : decode m_Mac_seek.2.1 5 = .ok (.invokevirtual 125, 3) := by decide +kernel
theorem d_Mac_seek_8 : decode m_Mac_seek.2.1 8 = .ok (.ifCond .ne 10, 3) := by decide +kernel
theorem d_Mac_seek_11 : decode m_Mac_seek.2.1 11 = .ok (.aload_n 1, 1) := by decide +kernel
theorem d_Mac_seek_12 : decode m_Mac_seek.2.1 12 = .ok (.iconst 0, 1) := by decide +kernel
theorem d_Mac_seek_13 : decode m_Mac_seek.2.1 13 = .ok (.putfield 147, 3) := by decide +kernel
theorem d_Mac_seek_16 : decode m_Mac_seek.2.1 16 = .ok (.iconst 0, 1) := by decide +kernel
theorem d_Mac_seek_17 : decode m_Mac_seek.2.1 17 = .ok (.ireturn, 1) := by decide +kernel
theorem d_Mac_seek_18 : decode m_Mac_seek.2.1 18 = .ok (.aload_n 0, 1) := by decide +kernel
theorem d_Mac_seek_19 : decode m_Mac_seek.2.1 19 = .ok (.aload_n 1, 1) := by decide +kernel
theorem d_Mac_seek_20 : decode m_Mac_seek.2.1 20 = .ok (.aload_n 0, 1) := by decide +kernel
theorem d_Mac_seek_21 : decode m_Mac_seek.2.1 21 = .ok (.getfield 12, 3) := by decide +kernel
theorem d_Mac_seek_24 : decode m_Mac_seek.2.1 24 = .ok (.aload_n 1, 1) := by decide +kernel
theorem d_Mac_seek_25 : decode m_Mac_seek.2.1 25 = .ok (.getfield 140, 3) := by decide +kernel
theorem d_Mac_seek_28 : decode m_Mac_seek.2.1 28 = .ok (.aload_n 0, 1) := by decide +kernel
theorem d_Mac_seek_29 : decode m_Mac_seek.2.1 29 = .ok (.getfield 37, 3) := by decide +kernel
theorem d_Mac_seek_32 : decode m_Mac_seek.2.1 32 = .ok (.iload_n 2, 1) := by decide +kernel
theorem d_Mac_seek_33 : decode m_Mac_seek.2.1 33 = .ok (.invokevirtual 163, 3) := by decide +kernel
theorem d_Mac_seek_36 : decode m_Mac_seek.2.1 36 = .ok (.iconst 0, 1) := by decide +kernel
theorem d_Mac_seek_37 : decode m_Mac_seek.2.1 37 = .ok (.invokevirtual 159, 3) := by decide +kernel
theorem d_Mac_seek_40 : decode m_Mac_seek.2.1 40 = .ok (.invokevirtual 89, 3) := by decide +kernel
theorem d_Mac_seek_43 : decode m_Mac_seek.2.1 43 = .ok (.ireturn, 1) := by decide +kernel
theorem d_Mac_bringRow_0 : decode m_Mac_bringRow.2.1 0 = .ok (.aload_n 0, 1) := by decide +kernel
theorem d_Mac_bringRow_1 : decode m_Mac_bringRow.2.1 1 = .ok (.getfield 37, 3) := by decide +kernel
theorem d_Mac_bringRow_4 : decode m_Mac_bringRow.2.1 4 = .ok (.iload_n 2, 1) := by decide +kernel
theorem d_Mac_bringRow_5 : decode m_Mac_bringRow.2.1 5 = .ok (.invokevirtual 125, 3) := by decide +kernel
theorem d_Mac_bringRow_8 : decode m_Mac_bringRow.2.1 8 = .ok (.ifCond .eq 36, 3) := by decide +kernel
theorem d_Mac_bringRow_11 : decode m_Mac_bringRow.2.1 11 = .ok (.aload_n 0, 1) := by decide +kernel
theorem d_Mac_bringRow_12 : decode m_Mac_bringRow.2.1 12 = .ok (.getfield 12, 3) := by decide +kernel
theorem d_Mac_bringRow_15 : decode m_Mac_bringRow.2.1 15 = .ok (.aload_n 1, 1) := by decide +kernel
theorem d_Mac_bringRow_16 : decode m_Mac_bringRow.2.1 16 = .ok (.getfield 140, 3) := by decide +kernel
theorem d_Mac_bringRow_19 : decode m_Mac_bringRow.2.1 19 = .ok (.aload_n 0, 1) := by decide +kernel
theorem d_Mac_bringRow_20 : decode m_Mac_bringRow.2.1 20 = .ok (.getfield 37, 3) := by decide +kernel
theorem d_Mac_bringRow_23 : decode m_Mac_bringRow.2.1 23 = .ok (.iload_n 2, 1) := by decide +kernel
theorem d_Mac_bringRow_24 : decode m_Mac_bringRow.2.1 24 = .ok (.invokevirtual 163, 3) := by decide +kernel
theorem d_Mac_bringRow_27 : decode m_Mac_bringRow.2.1 27 = .ok (.aload_n 0, 1) := by decide +kernel
theorem d_Mac_bringRow_28 : decode m_Mac_bringRow.2.1 28 = .ok (.getfield 37, 3) := by decide +kernel
theorem d_Mac_bringRow_31 : decode m_Mac_bringRow.2.1 31 = .ok (.iload_n 2, 1) := by decide +kernel
theorem d_Mac_bringRow_32 : decode m_Mac_bringRow.2.1 32 = .ok (.iconst 1, 1) := by decide +kernel
theorem d_Mac_bringRow_33 : decode m_Mac_bringRow.2.1 33 = .ok (.iadd, 1) := by decide +kernel
theorem d_Mac_bringRow_34 : decode m_Mac_bringRow.2.1 34 = .ok (.invokevirtual 185, 3) := by decide +kernel
theorem d_Mac_bringRow_37 : decode m_Mac_bringRow.2.1 37 = .ok (.ifCond .eq 7, 3) := by decide +kernel
theorem d_Mac_bringRow_40 : decode m_Mac_bringRow.2.1 40 = .ok (.iconst 1, 1) := by decide +kernel
theorem d_Mac_bringRow_41 : decode m_Mac_bringRow.2.1 41 = .ok (.goto 4, 3) := by decide +kernel
theorem d_Mac_bringRow_44 : decode m_Mac_bringRow.2.1 44 = .ok (.iconst 0, 1) := by decide +kernel
theorem d_Mac_bringRow_45 : decode m_Mac_bringRow.2.1 45 = .ok (.ireturn, 1) := by decide +kernel
theorem d_Mac_dropRow_0 : decode m_Mac_dropRow.2.1 0 = .ok (.aload_n 1, 1) := by decide +kernel
theorem d_Mac_dropRow_1 : decode m_Mac_dropRow.2.1 1 = .ok (.getfield 147, 3) := by decide +kernel
theorem d_Mac_dropRow_4 : decode m_Mac_dropRow.2.1 4 = .ok (.ifCond .eq 19, 3) := by decide +kernel
theorem d_Mac_dropRow_7 : decode m_Mac_dropRow.2.1 7 = .ok (.aload_n 0, 1) := by decide +kernel
theorem d_Mac_dropRow_8 : decode m_Mac_dropRow.2.1 8 = .ok (.getfield 12, 3) := by decide +kernel
theorem d_Mac_dropRow_11 : decode m_Mac_dropRow.2.1 11 = .ok (.aload_n 1, 1) := by decide +kernel
theorem d_Mac_dropRow_12 : decode m_Mac_dropRow.2.1 12 = .ok (.getfield 140, 3) := by decide +kernel
theorem d_Mac_dropRow_15 : decode m_Mac_dropRow.2.1 15 = .ok (.aload_n 1, 1) := by decide +kernel
theorem d_Mac_dropRow_16 : decode m_Mac_dropRow.2.1 16 = .ok (.getfield 155, 3) := by decide +kernel
theorem d_Mac_dropRow_19 : decode m_Mac_dropRow.2.1 19 = .ok (.invokevirtual 189, 3) := by decide +kernel
theorem d_Mac_dropRow_22 : decode m_Mac_dropRow.2.1 22 = .ok (.pop, 1) := by decide +kernel
theorem d_Mac_dropRow_23 : decode m_Mac_dropRow.2.1 23 = .ok (.return_, 1) := by decide +kernel
theorem d_Mac_compute_0 : decode m_Mac_compute.2.1 0 = .ok (.aload_n 0, 1) := by decide +kernel
theorem d_Mac_compute_1 : decode m_Mac_compute.2.1 1 = .ok (.getfield 21, 3) := by decide +kernel
theorem d_Mac_compute_4 : decode m_Mac_compute.2.1 4 = .ok (.iload_n 2, 1) := by decide +kernel
theorem d_Mac_compute_5 : decode m_Mac_compute.2.1 5 = .ok (.iconst 1, 1) := by decide +kernel
theorem d_Mac_compute_6 : decode m_Mac_compute.2.1 6 = .ok (.invokevirtual 58, 3) := by decide +kernel
theorem d_Mac_compute_9 : decode m_Mac_compute.2.1 9 = .ok (.istore_n 3, 1) := by decide +kernel
theorem d_Mac_compute_10 : decode m_Mac_compute.2.1 10 = .ok (.aload_n 0, 1) := by decide +kernel
theorem d_Mac_compute_11 : decode m_Mac_compute.2.1 11 = .ok (.getfield 21, 3) := by decide +kernel
theorem d_Mac_compute_14 : decode m_Mac_compute.2.1 14 = .ok (.iload_n 2, 1) := by decide +kernel
theorem d_Mac_compute_15 : decode m_Mac_compute.2.1 15 = .ok (.iconst 2, 1) := by decide +kernel
theorem d_Mac_compute_16 : decode m_Mac_compute.2.1 16 = .ok (.invokevirtual 58, 3) := by decide +kernel
theorem d_Mac_compute_19 : decode m_Mac_compute.2.1 19 = .ok (.istore 4, 2) := by decide +kernel
theorem d_Mac_compute_21 : decode m_Mac_compute.2.1 21 = .ok (.aload_n 0, 1) := by decide +kernel
theorem d_Mac_compute_22 : decode m_Mac_compute.2.1 22 = .ok (.getfield 21, 3) := by decide +kernel
theorem d_Mac_compute_25 : decode m_Mac_compute.2.1 25 = .ok (.iload_n 2, 1) := by decide +kernel
theorem d_Mac_compute_26 : decode m_Mac_compute.2.1 26 = .ok (.iconst 3, 1) := by decide +kernel
theorem d_Mac_compute_27 : decode m_Mac_compute.2.1 27 = .ok (.invokevirtual 58, 3) := by decide +kernel
theorem d_Mac_compute_30 : decode m_Mac_compute.2.1 30 = .ok (.istore 5, 2) := by decide +kernel
theorem d_Mac_compute_32 : decode m_Mac_compute.2.1 32 = .ok (.iload_n 2, 1) := by decide +kernel
theorem d_Mac_compute_33 : decode m_Mac_compute.2.1 33 = .ok (.iconst 1, 1) := by decide +kernel
theorem d_Mac_compute_34 : decode m_Mac_compute.2.1 34 = .ok (.iadd, 1) := by decide +kernel
theorem d_Mac_compute_35 : decode m_Mac_compute.2.1 35 = .ok (.istore 6, 2) := by decide +kernel
theorem d_Mac_compute_37 : decode m_Mac_compute.2.1 37 = .ok (.iload_n 1, 1) := by decide +kernel
theorem d_Mac_compute_38 : decode m_Mac_compute.2.1 38 = .ok (.tableswitch 219 0 19 #[94, 100, 219, 219, 219, 219, 114, 128, 219, 219, 219, 219, 219, 219, 219, 139, 158, 177, 189, 217], 94) := by decide +kernel
theorem d_Mac_compute_132 : decode m_Mac_compute.2.1 132 = .ok (.aload_n 0, 1) := by decide +kernel
theorem d_Mac_compute_133 : decode m_Mac_compute.2.1 133 = .ok (.iconst 0, 1) := by decide +kernel
theorem d_Mac_compute_134 : decode m_Mac_compute.2.1 134 = .ok (.invokevirtual 85, 3) := by decide +kernel
theorem d_Mac_compute_137 : decode m_Mac_compute.2.1 137 = .ok (.ireturn, 1) := by decide +kernel
theorem d_Mac_compute_138 : decode m_Mac_compute.2.1 138 = .ok (.aload_n 0, 1) := by decide +kernel
theorem d_Mac_compute_139 : decode m_Mac_compute.2.1 139 = .ok (.getfield 43, 3) := by decide +kernel
theorem d_Mac_compute_142 : decode m_Mac_compute.2.1 142 = .ok (.iload_n 3, 1) := by decide +kernel
theorem d_Mac_compute_143 : decode m_Mac_compute.2.1 143 = .ok (.aaload, 1) := by decide +kernel
theorem d_Mac_compute_144 : decode m_Mac_compute.2.1 144 = .ok (.iload 4, 2) := by decide +kernel
theorem d_Mac_compute_146 : decode m_Mac_compute.2.1 146 = .ok (.invokevirtual 115, 3) := by decide +kernel
theorem d_Mac_compute_149 : decode m_Mac_compute.2.1 149 = .ok (.iload 6, 2) := by decide +kernel
theorem d_Mac_compute_151 : decode m_Mac_compute.2.1 151 = .ok (.ireturn, 1) := by decide +kernel
theorem d_Mac_compute_152 : decode m_Mac_compute.2.1 152 = .ok (.aload_n 0, 1) := by decide +kernel
theorem d_Mac_compute_153 : decode m_Mac_compute.2.1 153 = .ok (.getfield 37, 3) := by decide +kernel
theorem d_Mac_compute_156 : decode m_Mac_compute.2.1 156 = .ok (.iload 4, 2) := by decide +kernel
theorem d_Mac_compute_158 : decode m_Mac_compute.2.1 158 = .ok (.iload_n 3, 1) := by decide +kernel
theorem d_Mac_compute_159 : decode m_Mac_compute.2.1 159 = .ok (.i2l, 1) := by decide +kernel
theorem d_Mac_compute_160 : decode m_Mac_compute.2.1 160 = .ok (.invokevirtual 118, 3) := by decide +kernel
theorem d_Mac_compute_163 : decode m_Mac_compute.2.1 163 = .ok (.iload 6, 2) := by decide +kernel
theorem d_Mac_compute_165 : decode m_Mac_compute.2.1 165 = .ok (.ireturn, 1) := by decide +kernel
theorem d_Mac_compute_166 : decode m_Mac_compute.2.1 166 = .ok (.aload_n 0, 1) := by decide +kernel
theorem d_Mac_compute_167 : decode m_Mac_compute.2.1 167 = .ok (.getfield 37, 3) := by decide +kernel
theorem d_Mac_compute_170 : decode m_Mac_compute.2.1 170 = .ok (.iload_n 3, 1) := by decide +kernel
theorem d_Mac_compute_171 : decode m_Mac_compute.2.1 171 = .ok (.invokevirtual 122, 3) := by decide +kernel
theorem d_Mac_compute_174 : decode m_Mac_compute.2.1 174 = .ok (.iload 6, 2) := by decide +kernel
theorem d_Mac_compute_176 : decode m_Mac_compute.2.1 176 = .ok (.ireturn, 1) := by decide +kernel
theorem d_Mac_compute_177 : decode m_Mac_compute.2.1 177 = .ok (.aload_n 0, 1) := by decide +kernel
theorem d_Mac_compute_178 : decode m_Mac_compute.2.1 178 = .ok (.getfield 37, 3) := by decide +kernel
theorem d_Mac_compute_181 : decode m_Mac_compute.2.1 181 = .ok (.iload_n 3, 1) := by decide +kernel
theorem d_Mac_compute_182 : decode m_Mac_compute.2.1 182 = .ok (.invokevirtual 125, 3) := by decide +kernel
theorem d_Mac_compute_185 : decode m_Mac_compute.2.1 185 = .ok (.ifCond .eq 8, 3) := by decide +kernel
theorem d_Mac_compute_188 : decode m_Mac_compute.2.1 188 = .ok (.iload 6, 2) := by decide +kernel
theorem d_Mac_compute_190 : decode m_Mac_compute.2.1 190 = .ok (.goto 5, 3) := by decide +kernel
theorem d_Mac_compute_193 : decode m_Mac_compute.2.1 193 = .ok (.iload 4, 2) := by decide +kernel
theorem d_Mac_compute_195 : decode m_Mac_compute.2.1 195 = .ok (.ireturn, 1) := by decide +kernel
theorem d_Mac_compute_196 : decode m_Mac_compute.2.1 196 = .ok (.aload_n 0, 1) := by decide +kernel
theorem d_Mac_compute_197 : decode m_Mac_compute.2.1 197 = .ok (.getfield 37, 3) := by decide +kernel
theorem d_Mac_compute_200 : decode m_Mac_compute.2.1 200 = .ok (.iload_n 3, 1) := by decide +kernel
theorem d_Mac_compute_201 : decode m_Mac_compute.2.1 201 = .ok (.invokevirtual 125, 3) := by decide +kernel
theorem d_Mac_compute_204 : decode m_Mac_compute.2.1 204 = .ok (.ifCond .eq 8, 3) := by decide +kernel
theorem d_Mac_compute_207 : decode m_Mac_compute.2.1 207 = .ok (.iload 4, 2) := by decide +kernel
theorem d_Mac_compute_209 : decode m_Mac_compute.2.1 209 = .ok (.goto 5, 3) := by decide +kernel
theorem d_Mac_compute_212 : decode m_Mac_compute.2.1 212 = .ok (.iload 6, 2) := by decide +kernel
theorem d_Mac_compute_214 : decode m_Mac_compute.2.1 214 = .ok (.ireturn, 1) := by decide +kernel
theorem d_Mac_compute_215 : decode m_Mac_compute.2.1 215 = .ok (.aload_n 0, 1) := by decide +kernel
theorem d_Mac_compute_216 : decode m_Mac_compute.2.1 216 = .ok (.iload_n 3, 1) := by decide +kernel
theorem d_Mac_compute_217 : decode m_Mac_compute.2.1 217 = .ok (.iload 4, 2) := by decide +kernel
theorem d_Mac_compute_219 : decode m_Mac_compute.2.1 219 = .ok (.iload 5, 2) := by decide +kernel
theorem d_Mac_compute_221 : decode m_Mac_compute.2.1 221 = .ok (.invokevirtual 128, 3) := by decide +kernel
theorem d_Mac_compute_224 : decode m_Mac_compute.2.1 224 = .ok (.iload 6, 2) := by decide +kernel
theorem d_Mac_compute_226 : decode m_Mac_compute.2.1 226 = .ok (.ireturn, 1) := by decide +kernel
theorem d_Mac_compute_227 : decode m_Mac_compute.2.1 227 = .ok (.aload_n 0, 1) := by decide +kernel
theorem d_Mac_compute_228 : decode m_Mac_compute.2.1 228 = .ok (.getfield 28, 3) := by decide +kernel
theorem d_Mac_compute_231 : decode m_Mac_compute.2.1 231 = .ok (.aload_n 0, 1) := by decide +kernel
theorem d_Mac_compute_232 : decode m_Mac_compute.2.1 232 = .ok (.getfield 37, 3) := by decide +kernel
theorem d_Mac_compute_235 : decode m_Mac_compute.2.1 235 = .ok (.iload_n 3, 1) := by decide +kernel
theorem d_Mac_compute_236 : decode m_Mac_compute.2.1 236 = .ok (.iload 4, 2) := by decide +kernel
theorem d_Mac_compute_238 : decode m_Mac_compute.2.1 238 = .ok (.invokevirtual 132, 3) := by decide +kernel
theorem d_Mac_compute_241 : decode m_Mac_compute.2.1 241 = .ok (.ifCond .eq 8, 3) := by decide +kernel
theorem d_Mac_compute_244 : decode m_Mac_compute.2.1 244 = .ok (.iload 6, 2) := by decide +kernel
theorem d_Mac_compute_246 : decode m_Mac_compute.2.1 246 = .ok (.goto 8, 3) := by decide +kernel
theorem d_Mac_compute_249 : decode m_Mac_compute.2.1 249 = .ok (.aload_n 0, 1) := by decide +kernel
theorem d_Mac_compute_250 : decode m_Mac_compute.2.1 250 = .ok (.iconst 2, 1) := by decide +kernel
theorem d_Mac_compute_251 : decode m_Mac_compute.2.1 251 = .ok (.invokevirtual 85, 3) := by decide +kernel
theorem d_Mac_compute_254 : decode m_Mac_compute.2.1 254 = .ok (.ireturn, 1) := by decide +kernel
theorem d_Mac_compute_255 : decode m_Mac_compute.2.1 255 = .ok (.iload_n 3, 1) := by decide +kernel
theorem d_Mac_compute_256 : decode m_Mac_compute.2.1 256 = .ok (.ireturn, 1) := by decide +kernel
theorem d_Mac_compute_257 : decode m_Mac_compute.2.1 257 = .ok (.aload_n 0, 1) := by decide +kernel
theorem d_Mac_compute_258 : decode m_Mac_compute.2.1 258 = .ok (.iload_n 1, 1) := by decide +kernel
theorem d_Mac_compute_259 : decode m_Mac_compute.2.1 259 = .ok (.iload_n 3, 1) := by decide +kernel
theorem d_Mac_compute_260 : decode m_Mac_compute.2.1 260 = .ok (.iload 5, 2) := by decide +kernel
theorem d_Mac_compute_262 : decode m_Mac_compute.2.1 262 = .ok (.invokevirtual 136, 3) := by decide +kernel
theorem d_Mac_compute_265 : decode m_Mac_compute.2.1 265 = .ok (.ifCond .eq 8, 3) := by decide +kernel
theorem d_Mac_compute_268 : decode m_Mac_compute.2.1 268 = .ok (.iload 4, 2) := by decide +kernel
theorem d_Mac_compute_270 : decode m_Mac_compute.2.1 270 = .ok (.goto 5, 3) := by decide +kernel
theorem d_Mac_compute_273 : decode m_Mac_compute.2.1 273 = .ok (.iload 6, 2) := by decide +kernel
theorem d_Mac_compute_275 : decode m_Mac_compute.2.1 275 = .ok (.ireturn, 1) := by decide +kernel
theorem d_Mac_sum_0 : decode m_Mac_sum.2.1 0 = .ok (.aload_n 0, 1) := by decide +kernel
theorem d_Mac_sum_1 : decode m_Mac_sum.2.1 1 = .ok (.getfield 37, 3) := by decide +kernel
theorem d_Mac_sum_4 : decode m_Mac_sum.2.1 4 = .ok (.iload_n 1, 1) := by decide +kernel
theorem d_Mac_sum_5 : decode m_Mac_sum.2.1 5 = .ok (.invokevirtual 125, 3) := by decide +kernel
theorem d_Mac_sum_8 : decode m_Mac_sum.2.1 8 = .ok (.ifCond .eq 42, 3) := by decide +kernel
theorem d_Mac_sum_11 : decode m_Mac_sum.2.1 11 = .ok (.aload_n 0, 1) := by decide +kernel
theorem d_Mac_sum_12 : decode m_Mac_sum.2.1 12 = .ok (.getfield 37, 3) := by decide +kernel
theorem d_Mac_sum_15 : decode m_Mac_sum.2.1 15 = .ok (.iload_n 2, 1) := by decide +kernel
theorem d_Mac_sum_16 : decode m_Mac_sum.2.1 16 = .ok (.invokevirtual 125, 3) := by decide +kernel
theorem d_Mac_sum_19 : decode m_Mac_sum.2.1 19 = .ok (.ifCond .eq 31, 3) := by decide +kernel
theorem d_Mac_sum_22 : decode m_Mac_sum.2.1 22 = .ok (.aload_n 0, 1) := by decide +kernel
theorem d_Mac_sum_23 : decode m_Mac_sum.2.1 23 = .ok (.getfield 37, 3) := by decide +kernel
theorem d_Mac_sum_26 : decode m_Mac_sum.2.1 26 = .ok (.iload_n 3, 1) := by decide +kernel
theorem d_Mac_sum_27 : decode m_Mac_sum.2.1 27 = .ok (.aload_n 0, 1) := by decide +kernel
theorem d_Mac_sum_28 : decode m_Mac_sum.2.1 28 = .ok (.getfield 37, 3) := by decide +kernel
theorem d_Mac_sum_31 : decode m_Mac_sum.2.1 31 = .ok (.iload_n 1, 1) := by decide +kernel
theorem d_Mac_sum_32 : decode m_Mac_sum.2.1 32 = .ok (.invokevirtual 163, 3) := by decide +kernel
theorem d_Mac_sum_35 : decode m_Mac_sum.2.1 35 = .ok (.aload_n 0, 1) := by decide +kernel
theorem d_Mac_sum_36 : decode m_Mac_sum.2.1 36 = .ok (.getfield 37, 3) := by decide +kernel
theorem d_Mac_sum_39 : decode m_Mac_sum.2.1 39 = .ok (.iload_n 2, 1) := by decide +kernel
theorem d_Mac_sum_40 : decode m_Mac_sum.2.1 40 = .ok (.invokevirtual 163, 3) := by decide +kernel
theorem d_Mac_sum_43 : decode m_Mac_sum.2.1 43 = .ok (.ladd, 1) := by decide +kernel
theorem d_Mac_sum_44 : decode m_Mac_sum.2.1 44 = .ok (.invokevirtual 118, 3) := by decide +kernel
theorem d_Mac_sum_47 : decode m_Mac_sum.2.1 47 = .ok (.goto 11, 3) := by decide +kernel
theorem d_Mac_sum_50 : decode m_Mac_sum.2.1 50 = .ok (.aload_n 0, 1) := by decide +kernel
theorem d_Mac_sum_51 : decode m_Mac_sum.2.1 51 = .ok (.getfield 37, 3) := by decide +kernel
theorem d_Mac_sum_54 : decode m_Mac_sum.2.1 54 = .ok (.iload_n 3, 1) := by decide +kernel
theorem d_Mac_sum_55 : decode m_Mac_sum.2.1 55 = .ok (.invokevirtual 122, 3) := by decide +kernel
theorem d_Mac_sum_58 : decode m_Mac_sum.2.1 58 = .ok (.return_, 1) := by decide +kernel
theorem d_Mac_holds_0 : decode m_Mac_holds.2.1 0 = .ok (.aload_n 0, 1) := by decide +kernel
theorem d_Mac_holds_1 : decode m_Mac_holds.2.1 1 = .ok (.getfield 37, 3) := by decide +kernel
theorem d_Mac_holds_4 : decode m_Mac_holds.2.1 4 = .ok (.iload_n 2, 1) := by decide +kernel
theorem d_Mac_holds_5 : decode m_Mac_holds.2.1 5 = .ok (.invokevirtual 125, 3) := by decide +kernel
theorem d_Mac_holds_8 : decode m_Mac_holds.2.1 8 = .ok (.ifCond .eq 14, 3) := by decide +kernel
theorem d_Mac_holds_11 : decode m_Mac_holds.2.1 11 = .ok (.aload_n 0, 1) := by decide +kernel
theorem d_Mac_holds_12 : decode m_Mac_holds.2.1 12 = .ok (.getfield 37, 3) := by decide +kernel
theorem d_Mac_holds_15 : decode m_Mac_holds.2.1 15 = .ok (.iload_n 3, 1) := by decide +kernel
theorem d_Mac_holds_16 : decode m_Mac_holds.2.1 16 = .ok (.invokevirtual 125, 3) := by decide +kernel
theorem d_Mac_holds_19 : decode m_Mac_holds.2.1 19 = .ok (.ifCond .ne 5, 3) := by decide +kernel
theorem d_Mac_holds_22 : decode m_Mac_holds.2.1 22 = .ok (.iconst 0, 1) := by decide +kernel
theorem d_Mac_holds_23 : decode m_Mac_holds.2.1 23 = .ok (.ireturn, 1) := by decide +kernel
theorem d_Mac_holds_24 : decode m_Mac_holds.2.1 24 = .ok (.aload_n 0, 1) := by decide +kernel
theorem d_Mac_holds_25 : decode m_Mac_holds.2.1 25 = .ok (.getfield 37, 3) := by decide +kernel
theorem d_Mac_holds_28 : decode m_Mac_holds.2.1 28 = .ok (.iload_n 2, 1) := by decide +kernel
theorem d_Mac_holds_29 : decode m_Mac_holds.2.1 29 = .ok (.invokevirtual 163, 3) := by decide +kernel
theorem d_Mac_holds_32 : decode m_Mac_holds.2.1 32 = .ok (.aload_n 0, 1) := by decide +kernel
theorem d_Mac_holds_33 : decode m_Mac_holds.2.1 33 = .ok (.getfield 37, 3) := by decide +kernel
theorem d_Mac_holds_36 : decode m_Mac_holds.2.1 36 = .ok (.iload_n 3, 1) := by decide +kernel
theorem d_Mac_holds_37 : decode m_Mac_holds.2.1 37 = .ok (.invokevirtual 163, 3) := by decide +kernel
theorem d_Mac_holds_40 : decode m_Mac_holds.2.1 40 = .ok (.invokestatic 193, 3) := by decide +kernel
theorem d_Mac_holds_43 : decode m_Mac_holds.2.1 43 = .ok (.istore 4, 2) := by decide +kernel
theorem d_Mac_holds_45 : decode m_Mac_holds.2.1 45 = .ok (.iload_n 1, 1) := by decide +kernel
theorem d_Mac_holds_46 : decode m_Mac_holds.2.1 46 = .ok (.tableswitch 89 9 13 #[34, 45, 56, 67, 78], 34) := by decide +kernel
theorem d_Mac_holds_80 : decode m_Mac_holds.2.1 80 = .ok (.iload 4, 2) := by decide +kernel
theorem d_Mac_holds_82 : decode m_Mac_holds.2.1 82 = .ok (.ifCond .ne 7, 3) := by decide +kernel
theorem d_Mac_holds_85 : decode m_Mac_holds.2.1 85 = .ok (.iconst 1, 1) := by decide +kernel
theorem d_Mac_holds_86 : decode m_Mac_holds.2.1 86 = .ok (.goto 4, 3) := by decide +kernel
theorem d_Mac_holds_89 : decode m_Mac_holds.2.1 89 = .ok (.iconst 0, 1) := by decide +kernel
theorem d_Mac_holds_90 : decode m_Mac_holds.2.1 90 = .ok (.ireturn, 1) := by decide +kernel
theorem d_Mac_holds_91 : decode m_Mac_holds.2.1 91 = .ok (.iload 4, 2) := by decide +kernel
theorem d_Mac_holds_93 : decode m_Mac_holds.2.1 93 = .ok (.ifCond .eq 7, 3) := by decide +kernel
theorem d_Mac_holds_96 : decode m_Mac_holds.2.1 96 = .ok (.iconst 1, 1) := by decide +kernel
theorem d_Mac_holds_97 : decode m_Mac_holds.2.1 97 = .ok (.goto 4, 3) := by decide +kernel
theorem d_Mac_holds_100 : decode m_Mac_holds.2.1 100 = .ok (.iconst 0, 1) := by decide +kernel
theorem d_Mac_holds_101 : decode m_Mac_holds.2.1 101 = .ok (.ireturn, 1) := by decide +kernel
theorem d_Mac_holds_102 : decode m_Mac_holds.2.1 102 = .ok (.iload 4, 2) := by decide +kernel
theorem d_Mac_holds_104 : decode m_Mac_holds.2.1 104 = .ok (.ifCond .ge 7, 3) := by decide +kernel
theorem d_Mac_holds_107 : decode m_Mac_holds.2.1 107 = .ok (.iconst 1, 1) := by decide +kernel
theorem d_Mac_holds_108 : decode m_Mac_holds.2.1 108 = .ok (.goto 4, 3) := by decide +kernel
theorem d_Mac_holds_111 : decode m_Mac_holds.2.1 111 = .ok (.iconst 0, 1) := by decide +kernel
theorem d_Mac_holds_112 : decode m_Mac_holds.2.1 112 = .ok (.ireturn, 1) := by decide +kernel
theorem d_Mac_holds_113 : decode m_Mac_holds.2.1 113 = .ok (.iload 4, 2) := by decide +kernel
theorem d_Mac_holds_115 : decode m_Mac_holds.2.1 115 = .ok (.ifCond .gt 7, 3) := by decide +kernel
theorem d_Mac_holds_118 : decode m_Mac_holds.2.1 118 = .ok (.iconst 1, 1) := by decide +kernel
theorem d_Mac_holds_119 : decode m_Mac_holds.2.1 119 = .ok (.goto 4, 3) := by decide +kernel
theorem d_Mac_holds_122 : decode m_Mac_holds.2.1 122 = .ok (.iconst 0, 1) := by decide +kernel
theorem d_Mac_holds_123 : decode m_Mac_holds.2.1 123 = .ok (.ireturn, 1) := by decide +kernel
theorem d_Mac_holds_124 : decode m_Mac_holds.2.1 124 = .ok (.iload 4, 2) := by decide +kernel
theorem d_Mac_holds_126 : decode m_Mac_holds.2.1 126 = .ok (.ifCond .le 7, 3) := by decide +kernel
theorem d_Mac_holds_129 : decode m_Mac_holds.2.1 129 = .ok (.iconst 1, 1) := by decide +kernel
theorem d_Mac_holds_130 : decode m_Mac_holds.2.1 130 = .ok (.goto 4, 3) := by decide +kernel
theorem d_Mac_holds_133 : decode m_Mac_holds.2.1 133 = .ok (.iconst 0, 1) := by decide +kernel
theorem d_Mac_holds_134 : decode m_Mac_holds.2.1 134 = .ok (.ireturn, 1) := by decide +kernel
theorem d_Mac_holds_135 : decode m_Mac_holds.2.1 135 = .ok (.iload 4, 2) := by decide +kernel
theorem d_Mac_holds_137 : decode m_Mac_holds.2.1 137 = .ok (.ifCond .lt 7, 3) := by decide +kernel
theorem d_Mac_holds_140 : decode m_Mac_holds.2.1 140 = .ok (.iconst 1, 1) := by decide +kernel
theorem d_Mac_holds_141 : decode m_Mac_holds.2.1 141 = .ok (.goto 4, 3) := by decide +kernel
theorem d_Mac_holds_144 : decode m_Mac_holds.2.1 144 = .ok (.iconst 0, 1) := by decide +kernel
theorem d_Mac_holds_145 : decode m_Mac_holds.2.1 145 = .ok (.ireturn, 1) := by decide +kernel
end
section
theorem d_Que_init_0 : decode m_Que_init.2.1 0 = .ok (.aload_n 0, 1) := by decide +kernel
theorem d_Que_init_1 : decode m_Que_init.2.1 1 = .ok (.invokespecial 3, 3) := by decide +kernel
theorem d_Que_init_4 : decode m_Que_init.2.1 4 = .ok (.aload_n 0, 1) := by decide +kernel
theorem d_Que_init_5 : decode m_Que_init.2.1 5 = .ok (.iconst 2, 1) := by decide +kernel
theorem d_Que_init_6 : decode m_Que_init.2.1 6 = .ok (.newarray .int, 2) := by decide +kernel
theorem d_Que_init_8 : decode m_Que_init.2.1 8 = .ok (.putfield 9, 3) := by decide +kernel
theorem d_Que_init_11 : decode m_Que_init.2.1 11 = .ok (.aload_n 0, 1) := by decide +kernel
theorem d_Que_init_12 : decode m_Que_init.2.1 12 = .ok (.iconst 0, 1) := by decide +kernel
theorem d_Que_init_13 : decode m_Que_init.2.1 13 = .ok (.putfield 15, 3) := by decide +kernel
theorem d_Que_init_16 : decode m_Que_init.2.1 16 = .ok (.aload_n 0, 1) := by decide +kernel
theorem d_Que_init_17 : decode m_Que_init.2.1 17 = .ok (.iconst 0, 1) := by decide +kernel
theorem d_Que_init_18 : decode m_Que_init.2.1 18 = .ok (.putfield 19, 3) := by decide +kernel
theorem d_Que_init_21 : decode m_Que_init.2.1 21 = .ok (.aload_n 0, 1) := by decide +kernel
theorem d_Que_init_22 : decode m_Que_init.2.1 22 = .ok (.iconst 0, 1) := by decide +kernel
theorem d_Que_init_23 : decode m_Que_init.2.1 23 = .ok (.putfield 22, 3) := by decide +kernel
theorem d_Que_init_26 : decode m_Que_init.2.1 26 = .ok (.aload_n 0, 1) := by decide +kernel
theorem d_Que_init_27 : decode m_Que_init.2.1 27 = .ok (.iconst 4, 1) := by decide +kernel
theorem d_Que_init_28 : decode m_Que_init.2.1 28 = .ok (.newarray .int, 2) := by decide +kernel
theorem d_Que_init_30 : decode m_Que_init.2.1 30 = .ok (.putfield 25, 3) := by decide +kernel
theorem d_Que_init_33 : decode m_Que_init.2.1 33 = .ok (.aload_n 0, 1) := by decide +kernel
theorem d_Que_init_34 : decode m_Que_init.2.1 34 = .ok (.iconst 4, 1) := by decide +kernel
theorem d_Que_init_35 : decode m_Que_init.2.1 35 = .ok (.newarray .int, 2) := by decide +kernel
theorem d_Que_init_37 : decode m_Que_init.2.1 37 = .ok (.putfield 28, 3) := by decide +kernel
theorem d_Que_init_40 : decode m_Que_init.2.1 40 = .ok (.aload_n 0, 1) := by decide +kernel
theorem d_Que_init_41 : decode m_Que_init.2.1 41 = .ok (.iconst 4, 1) := by decide +kernel
theorem d_Que_init_42 : decode m_Que_init.2.1 42 = .ok (.newarray .int, 2) := by decide +kernel
theorem d_Que_init_44 : decode m_Que_init.2.1 44 = .ok (.putfield 31, 3) := by decide +kernel
theorem d_Que_init_47 : decode m_Que_init.2.1 47 = .ok (.aload_n 0, 1) := by decide +kernel
theorem d_Que_init_48 : decode m_Que_init.2.1 48 = .ok (.iconst 4, 1) := by decide +kernel
theorem d_Que_init_49 : decode m_Que_init.2.1 49 = .ok (.newarray .int, 2) := by decide +kernel
theorem d_Que_init_51 : decode m_Que_init.2.1 51 = .ok (.putfield 34, 3) := by decide +kernel
theorem d_Que_init_54 : decode m_Que_init.2.1 54 = .ok (.aload_n 0, 1) := by decide +kernel
theorem d_Que_init_55 : decode m_Que_init.2.1 55 = .ok (.iconst 4, 1) := by decide +kernel
theorem d_Que_init_56 : decode m_Que_init.2.1 56 = .ok (.newarray .int, 2) := by decide +kernel
theorem d_Que_init_58 : decode m_Que_init.2.1 58 = .ok (.putfield 37, 3) := by decide +kernel
theorem d_Que_init_61 : decode m_Que_init.2.1 61 = .ok (.aload_n 0, 1) := by decide +kernel
theorem d_Que_init_62 : decode m_Que_init.2.1 62 = .ok (.iconst 4, 1) := by decide +kernel
theorem d_Que_init_63 : decode m_Que_init.2.1 63 = .ok (.newarray .int, 2) := by decide +kernel
theorem d_Que_init_65 : decode m_Que_init.2.1 65 = .ok (.putfield 40, 3) := by decide +kernel
theorem d_Que_init_68 : decode m_Que_init.2.1 68 = .ok (.aload_n 0, 1) := by decide +kernel
theorem d_Que_init_69 : decode m_Que_init.2.1 69 = .ok (.iconst 0, 1) := by decide +kernel
theorem d_Que_init_70 : decode m_Que_init.2.1 70 = .ok (.putfield 43, 3) := by decide +kernel
theorem d_Que_init_73 : decode m_Que_init.2.1 73 = .ok (.aload_n 0, 1) := by decide +kernel
theorem d_Que_init_74 : decode m_Que_init.2.1 74 = .ok (.iconst (-1), 1) := by decide +kernel
theorem d_Que_init_75 : decode m_Que_init.2.1 75 = .ok (.putfield 47, 3) := by decide +kernel
theorem d_Que_init_78 : decode m_Que_init.2.1 78 = .ok (.aload_n 0, 1) := by decide +kernel
theorem d_Que_init_79 : decode m_Que_init.2.1 79 = .ok (.iconst (-1), 1) := by decide +kernel
theorem d_Que_init_80 : decode m_Que_init.2.1 80 = .ok (.putfield 50, 3) := by decide +kernel
theorem d_Que_init_83 : decode m_Que_init.2.1 83 = .ok (.return_, 1) := by decide +kernel
theorem d_Que_begin_0 : decode m_Que_begin.2.1 0 = .ok (.aload_n 0, 1) := by decide +kernel
theorem d_Que_begin_1 : decode m_Que_begin.2.1 1 = .ok (.getfield 9, 3) := by decide +kernel
theorem d_Que_begin_4 : decode m_Que_begin.2.1 4 = .ok (.iconst 0, 1) := by decide +kernel
theorem d_Que_begin_5 : decode m_Que_begin.2.1 5 = .ok (.iload_n 1, 1) := by decide +kernel
theorem d_Que_begin_6 : decode m_Que_begin.2.1 6 = .ok (.iastore, 1) := by decide +kernel
theorem d_Que_begin_7 : decode m_Que_begin.2.1 7 = .ok (.aload_n 0, 1) := by decide +kernel
theorem d_Que_begin_8 : decode m_Que_begin.2.1 8 = .ok (.getfield 9, 3) := by decide +kernel
theorem d_Que_begin_11 : decode m_Que_begin.2.1 11 = .ok (.iconst 1, 1) := by decide +kernel
theorem d_Que_begin_12 : decode m_Que_begin.2.1 12 = .ok (.iload_n 2, 1) := by decide +kernel
theorem d_Que_begin_13 : decode m_Que_begin.2.1 13 = .ok (.iastore, 1) := by decide +kernel
theorem d_Que_begin_14 : decode m_Que_begin.2.1 14 = .ok (.aload_n 0, 1) := by decide +kernel
theorem d_Que_begin_15 : decode m_Que_begin.2.1 15 = .ok (.iload_n 2, 1) := by decide +kernel
theorem d_Que_begin_16 : decode m_Que_begin.2.1 16 = .ok (.iconst (-1), 1) := by decide +kernel
theorem d_Que_begin_17 : decode m_Que_begin.2.1 17 = .ok (.if_icmp .ne 7, 3) := by decide +kernel
theorem d_Que_begin_20 : decode m_Que_begin.2.1 20 = .ok (.iconst 1, 1) := by decide +kernel
theorem d_Que_begin_21 : decode m_Que_begin.2.1 21 = .ok (.goto 4, 3) := by decide +kernel
theorem d_Que_begin_24 : decode m_Que_begin.2.1 24 = .ok (.iconst 2, 1) := by decide +kernel
theorem d_Que_begin_25 : decode m_Que_begin.2.1 25 = .ok (.putfield 22, 3) := by decide +kernel
theorem d_Que_begin_28 : decode m_Que_begin.2.1 28 = .ok (.aload_n 0, 1) := by decide +kernel
theorem d_Que_begin_29 : decode m_Que_begin.2.1 29 = .ok (.iconst 0, 1) := by decide +kernel
theorem d_Que_begin_30 : decode m_Que_begin.2.1 30 = .ok (.putfield 15, 3) := by decide +kernel
theorem d_Que_begin_33 : decode m_Que_begin.2.1 33 = .ok (.aload_n 0, 1) := by decide +kernel
theorem d_Que_begin_34 : decode m_Que_begin.2.1 34 = .ok (.iconst 0, 1) := by decide +kernel
theorem d_Que_begin_35 : decode m_Que_begin.2.1 35 = .ok (.putfield 19, 3) := by decide +kernel
theorem d_Que_begin_38 : decode m_Que_begin.2.1 38 = .ok (.aload_n 0, 1) := by decide +kernel
theorem d_Que_begin_39 : decode m_Que_begin.2.1 39 = .ok (.iconst 0, 1) := by decide +kernel
theorem d_Que_begin_40 : decode m_Que_begin.2.1 40 = .ok (.putfield 43, 3) := by decide +kernel
theorem d_Que_begin_43 : decode m_Que_begin.2.1 43 = .ok (.return_, 1) := by decide +kernel
theorem d_Que_hasCursor_0 : decode m_Que_hasCursor.2.1 0 = .ok (.iload_n 1, 1) := by decide +kernel
theorem d_Que_hasCursor_1 : decode m_Que_hasCursor.2.1 1 = .ok (.aload_n 0, 1) := by decide +kernel
theorem d_Que_hasCursor_2 : decode m_Que_hasCursor.2.1 2 = .ok (.getfield 22, 3) := by decide +kernel
theorem d_Que_hasCursor_5 : decode m_Que_hasCursor.2.1 5 = .ok (.invokestatic 53, 3) := by decide +kernel
theorem d_Que_hasCursor_8 : decode m_Que_hasCursor.2.1 8 = .ok (.ireturn, 1) := by decide +kernel
theorem d_Que_bringOutput_0 : decode m_Que_bringOutput.2.1 0 = .ok (.aload_n 0, 1) := by decide +kernel
theorem d_Que_bringOutput_1 : decode m_Que_bringOutput.2.1 1 = .ok (.getfield 25, 3) := by decide +kernel
theorem d_Que_bringOutput_4 : decode m_Que_bringOutput.2.1 4 = .ok (.aload_n 0, 1) := by decide +kernel
theorem d_Que_bringOutput_5 : decode m_Que_bringOutput.2.1 5 = .ok (.getfield 15, 3) := by decide +kernel
theorem d_Que_bringOutput_8 : decode m_Que_bringOutput.2.1 8 = .ok (.iload_n 1, 1) := by decide +kernel
theorem d_Que_bringOutput_9 : decode m_Que_bringOutput.2.1 9 = .ok (.iastore, 1) := by decide +kernel
theorem d_Que_bringOutput_10 : decode m_Que_bringOutput.2.1 10 = .ok (.aload_n 0, 1) := by decide +kernel
theorem d_Que_bringOutput_11 : decode m_Que_bringOutput.2.1 11 = .ok (.getfield 28, 3) := by decide +kernel
theorem d_Que_bringOutput_14 : decode m_Que_bringOutput.2.1 14 = .ok (.aload_n 0, 1) := by decide +kernel
theorem d_Que_bringOutput_15 : decode m_Que_bringOutput.2.1 15 = .ok (.getfield 15, 3) := by decide +kernel
theorem d_Que_bringOutput_18 : decode m_Que_bringOutput.2.1 18 = .ok (.iload_n 2, 1) := by decide +kernel
theorem d_Que_bringOutput_19 : decode m_Que_bringOutput.2.1 19 = .ok (.iastore, 1) := by decide +kernel
theorem d_Que_bringOutput_20 : decode m_Que_bringOutput.2.1 20 = .ok (.aload_n 0, 1) := by decide +kernel
theorem d_Que_bringOutput_21 : decode m_Que_bringOutput.2.1 21 = .ok (.dup, 1) := by decide +kernel
theorem d_Que_bringOutput_22 : decode m_Que_bringOutput.2.1 22 = .ok (.getfield 15, 3) := by decide +kernel
theorem d_Que_bringOutput_25 : decode m_Que_bringOutput.2.1 25 = .ok (.iconst 1, 1) := by decide +kernel
theorem d_Que_bringOutput_26 : decode m_Que_bringOutput.2.1 26 = .ok (.iadd, 1) := by decide +kernel
theorem d_Que_bringOutput_27 : decode m_Que_bringOutput.2.1 27 = .ok (.putfield 15, 3) := by decide +kernel
theorem d_Que_bringOutput_30 : decode m_Que_bringOutput.2.1 30 = .ok (.return_, 1) := by decide +kernel
theorem d_Que_bringCondition_0 : decode m_Que_bringCondition.2.1 0 = .ok (.aload_n 0, 1) := by decide +kernel
theorem d_Que_bringCondition_1 : decode m_Que_bringCondition.2.1 1 = .ok (.getfield 31, 3) := by decide +kernel
theorem d_Que_bringCondition_4 : decode m_Que_bringCondition.2.1 4 = .ok (.aload_n 0, 1) := by decide +kernel
theorem d_Que_bringCondition_5 : decode m_Que_bringCondition.2.1 5 = .ok (.getfield 19, 3) := by decide +kernel
theorem d_Que_bringCondition_8 : decode m_Que_bringCondition.2.1 8 = .ok (.iload_n 1, 1) := by decide +kernel
theorem d_Que_bringCondition_9 : decode m_Que_bringCondition.2.1 9 = .ok (.iastore, 1) := by decide +kernel
theorem d_Que_bringCondition_10 : decode m_Que_bringCondition.2.1 10 = .ok (.aload_n 0, 1) := by decide +kernel
theorem d_Que_bringCondition_11 : decode m_Que_bringCondition.2.1 11 = .ok (.getfield 34, 3) := by decide +kernel
theorem d_Que_bringCondition_14 : decode m_Que_bringCondition.2.1 14 = .ok (.aload_n 0, 1) := by decide +kernel
theorem d_Que_bringCondition_15 : decode m_Que_bringCondition.2.1 15 = .ok (.getfield 19, 3) := by decide +kernel
theorem d_Que_bringCondition_18 : decode m_Que_bringCondition.2.1 18 = .ok (.iload_n 2, 1) := by decide +kernel
theorem d_Que_bringCondition_19 : decode m_Que_bringCondition.2.1 19 = .ok (.iastore, 1) := by decide +kernel
theorem d_Que_bringCondition_20 : decode m_Que_bringCondition.2.1 20 = .ok (.aload_n 0, 1) := by decide +kernel
theorem d_Que_bringCondition_21 : decode m_Que_bringCondition.2.1 21 = .ok (.getfield 37, 3) := by decide +kernel
theorem d_Que_bringCondition_24 : decode m_Que_bringCondition.2.1 24 = .ok (.aload_n 0, 1) := by decide +kernel
theorem d_Que_bringCondition_25 : decode m_Que_bringCondition.2.1 25 = .ok (.getfield 19, 3) := by decide +kernel
theorem d_Que_bringCondition_28 : decode m_Que_bringCondition.2.1 28 = .ok (.iload_n 3, 1) := by decide +kernel
theorem d_Que_bringCondition_29 : decode m_Que_bringCondition.2.1 29 = .ok (.iastore, 1) := by decide +kernel
theorem d_Que_bringCondition_30 : decode m_Que_bringCondition.2.1 30 = .ok (.aload_n 0, 1) := by decide +kernel
theorem d_Que_bringCondition_31 : decode m_Que_bringCondition.2.1 31 = .ok (.getfield 40, 3) := by decide +kernel
theorem d_Que_bringCondition_34 : decode m_Que_bringCondition.2.1 34 = .ok (.aload_n 0, 1) := by decide +kernel
theorem d_Que_bringCondition_35 : decode m_Que_bringCondition.2.1 35 = .ok (.getfield 19, 3) := by decide +kernel
theorem d_Que_bringCondition_38 : decode m_Que_bringCondition.2.1 38 = .ok (.iload 4, 2) := by decide +kernel
theorem d_Que_bringCondition_40 : decode m_Que_bringCondition.2.1 40 = .ok (.iastore, 1) := by decide +kernel
theorem d_Que_bringCondition_41 : decode m_Que_bringCondition.2.1 41 = .ok (.aload_n 0, 1) := by decide +kernel
theorem d_Que_bringCondition_42 : decode m_Que_bringCondition.2.1 42 = .ok (.dup, 1) := by decide +kernel
theorem d_Que_bringCondition_43 : decode m_Que_bringCondition.2.1 43 = .ok (.getfield 19, 3) := by decide +kernel
theorem d_Que_bringCondition_46 : decode m_Que_bringCondition.2.1 46 = .ok (.iconst 1, 1) := by decide +kernel
theorem d_Que_bringCondition_47 : decode m_Que_bringCondition.2.1 47 = .ok (.iadd, 1) := by decide +kernel
theorem d_Que_bringCondition_48 : decode m_Que_bringCondition.2.1 48 = .ok (.putfield 19, 3) := by decide +kernel
theorem d_Que_bringCondition_51 : decode m_Que_bringCondition.2.1 51 = .ok (.return_, 1) := by decide +kernel
theorem d_Que_bringJoin_0 : decode m_Que_bringJoin.2.1 0 = .ok (.aload_n 0, 1) := by decide +kernel
theorem d_Que_bringJoin_1 : decode m_Que_bringJoin.2.1 1 = .ok (.iconst 1, 1) := by decide +kernel
theorem d_Que_bringJoin_2 : decode m_Que_bringJoin.2.1 2 = .ok (.putfield 43, 3) := by decide +kernel
theorem d_Que_bringJoin_5 : decode m_Que_bringJoin.2.1 5 = .ok (.aload_n 0, 1) := by decide +kernel
theorem d_Que_bringJoin_6 : decode m_Que_bringJoin.2.1 6 = .ok (.iload_n 1, 1) := by decide +kernel
theorem d_Que_bringJoin_7 : decode m_Que_bringJoin.2.1 7 = .ok (.putfield 47, 3) := by decide +kernel
theorem d_Que_bringJoin_10 : decode m_Que_bringJoin.2.1 10 = .ok (.aload_n 0, 1) := by decide +kernel
theorem d_Que_bringJoin_11 : decode m_Que_bringJoin.2.1 11 = .ok (.iload_n 2, 1) := by decide +kernel
theorem d_Que_bringJoin_12 : decode m_Que_bringJoin.2.1 12 = .ok (.putfield 50, 3) := by decide +kernel
theorem d_Que_bringJoin_15 : decode m_Que_bringJoin.2.1 15 = .ok (.return_, 1) := by decide +kernel
theorem d_Que_writeTo_0 : decode m_Que_writeTo.2.1 0 = .ok (.iload_n 2, 1) := by decide +kernel
theorem d_Que_writeTo_1 : decode m_Que_writeTo.2.1 1 = .ok (.iconst 1, 1) := by decide +kernel
theorem d_Que_writeTo_2 : decode m_Que_writeTo.2.1 2 = .ok (.isub, 1) := by decide +kernel
theorem d_Que_writeTo_3 : decode m_Que_writeTo.2.1 3 = .ok (.istore_n 3, 1) := by decide +kernel
theorem d_Que_writeTo_4 : decode m_Que_writeTo.2.1 4 = .ok (.iload_n 3, 1) := by decide +kernel
theorem d_Que_writeTo_5 : decode m_Que_writeTo.2.1 5 = .ok (.iconst 1, 1) := by decide +kernel
theorem d_Que_writeTo_6 : decode m_Que_writeTo.2.1 6 = .ok (.isub, 1) := by decide +kernel
theorem d_Que_writeTo_7 : decode m_Que_writeTo.2.1 7 = .ok (.istore 4, 2) := by decide +kernel
theorem d_Que_writeTo_9 : decode m_Que_writeTo.2.1 9 = .ok (.aload_n 1, 1) := by decide +kernel
theorem d_Que_writeTo_10 : decode m_Que_writeTo.2.1 10 = .ok (.iconst 0, 1) := by decide +kernel
theorem d_Que_writeTo_11 : decode m_Que_writeTo.2.1 11 = .ok (.putfield 57, 3) := by decide +kernel
theorem d_Que_writeTo_14 : decode m_Que_writeTo.2.1 14 = .ok (.iconst 0, 1) := by decide +kernel
theorem d_Que_writeTo_15 : decode m_Que_writeTo.2.1 15 = .ok (.istore 5, 2) := by decide +kernel
theorem d_Que_writeTo_17 : decode m_Que_writeTo.2.1 17 = .ok (.iload 5, 2) := by decide +kernel
theorem d_Que_writeTo_19 : decode m_Que_writeTo.2.1 19 = .ok (.aload_n 0, 1) := by decide +kernel
theorem d_Que_writeTo_20 : decode m_Que_writeTo.2.1 20 = .ok (.getfield 22, 3) := by decide +kernel
theorem d_Que_writeTo_23 : decode m_Que_writeTo.2.1 23 = .ok (.if_icmp .ge 24, 3) := by decide +kernel
theorem d_Que_writeTo_26 : decode m_Que_writeTo.2.1 26 = .ok (.aload_n 1, 1) := by decide +kernel
theorem d_Que_writeTo_27 : decode m_Que_writeTo.2.1 27 = .ok (.iconst 1, 1) := by decide +kernel
theorem d_Que_writeTo_28 : decode m_Que_writeTo.2.1 28 = .ok (.iload 5, 2) := by decide +kernel
theorem d_Que_writeTo_30 : decode m_Que_writeTo.2.1 30 = .ok (.aload_n 0, 1) := by decide +kernel
theorem d_Que_writeTo_31 : decode m_Que_writeTo.2.1 31 = .ok (.getfield 9, 3) := by decide +kernel
theorem d_Que_writeTo_34 : decode m_Que_writeTo.2.1 34 = .ok (.iload 5, 2) := by decide +kernel
theorem d_Que_writeTo_36 : decode m_Que_writeTo.2.1 36 = .ok (.iaload, 1) := by decide +kernel
theorem d_Que_writeTo_37 : decode m_Que_writeTo.2.1 37 = .ok (.iconst 0, 1) := by decide +kernel
theorem d_Que_writeTo_38 : decode m_Que_writeTo.2.1 38 = .ok (.invokevirtual 64, 3) := by decide +kernel
theorem d_Que_writeTo_41 : decode m_Que_writeTo.2.1 41 = .ok (.iinc 5 1, 3) := by decide +kernel
theorem d_Que_writeTo_44 : decode m_Que_writeTo.2.1 44 = .ok (.goto (-27), 3) := by decide +kernel
theorem d_Que_writeTo_47 : decode m_Que_writeTo.2.1 47 = .ok (.aload_n 0, 1) := by decide +kernel
theorem d_Que_writeTo_48 : decode m_Que_writeTo.2.1 48 = .ok (.aload_n 1, 1) := by decide +kernel
theorem d_Que_writeTo_49 : decode m_Que_writeTo.2.1 49 = .ok (.iconst 0, 1) := by decide +kernel
theorem d_Que_writeTo_50 : decode m_Que_writeTo.2.1 50 = .ok (.iload_n 3, 1) := by decide +kernel
theorem d_Que_writeTo_51 : decode m_Que_writeTo.2.1 51 = .ok (.invokevirtual 68, 3) := by decide +kernel
theorem d_Que_writeTo_54 : decode m_Que_writeTo.2.1 54 = .ok (.aload_n 1, 1) := by decide +kernel
theorem d_Que_writeTo_55 : decode m_Que_writeTo.2.1 55 = .ok (.getfield 57, 3) := by decide +kernel
theorem d_Que_writeTo_58 : decode m_Que_writeTo.2.1 58 = .ok (.istore 5, 2) := by decide +kernel
theorem d_Que_writeTo_60 : decode m_Que_writeTo.2.1 60 = .ok (.aload_n 0, 1) := by decide +kernel
theorem d_Que_writeTo_61 : decode m_Que_writeTo.2.1 61 = .ok (.aload_n 1, 1) := by decide +kernel
theorem d_Que_writeTo_62 : decode m_Que_writeTo.2.1 62 = .ok (.iconst 0, 1) := by decide +kernel
theorem d_Que_writeTo_63 : decode m_Que_writeTo.2.1 63 = .ok (.iload 4, 2) := by decide +kernel
theorem d_Que_writeTo_65 : decode m_Que_writeTo.2.1 65 = .ok (.invokevirtual 72, 3) := by decide +kernel
theorem d_Que_writeTo_68 : decode m_Que_writeTo.2.1 68 = .ok (.aload_n 0, 1) := by decide +kernel
theorem d_Que_writeTo_69 : decode m_Que_writeTo.2.1 69 = .ok (.getfield 22, 3) := by decide +kernel
theorem d_Que_writeTo_72 : decode m_Que_writeTo.2.1 72 = .ok (.iconst 2, 1) := by decide +kernel
theorem d_Que_writeTo_73 : decode m_Que_writeTo.2.1 73 = .ok (.if_icmp .ne 13, 3) := by decide +kernel
theorem d_Que_writeTo_76 : decode m_Que_writeTo.2.1 76 = .ok (.aload_n 0, 1) := by decide +kernel
theorem d_Que_writeTo_77 : decode m_Que_writeTo.2.1 77 = .ok (.aload_n 1, 1) := by decide +kernel
theorem d_Que_writeTo_78 : decode m_Que_writeTo.2.1 78 = .ok (.iload 4, 2) := by decide +kernel
theorem d_Que_writeTo_80 : decode m_Que_writeTo.2.1 80 = .ok (.invokevirtual 75, 3) := by decide +kernel
theorem d_Que_writeTo_83 : decode m_Que_writeTo.2.1 83 = .ok (.goto 8, 3) := by decide +kernel
theorem d_Que_writeTo_86 : decode m_Que_writeTo.2.1 86 = .ok (.aload_n 0, 1) := by decide +kernel
theorem d_Que_writeTo_87 : decode m_Que_writeTo.2.1 87 = .ok (.aload_n 1, 1) := by decide +kernel
theorem d_Que_writeTo_88 : decode m_Que_writeTo.2.1 88 = .ok (.invokevirtual 79, 3) := by decide +kernel
theorem d_Que_writeTo_91 : decode m_Que_writeTo.2.1 91 = .ok (.aload_n 1, 1) := by decide +kernel
theorem d_Que_writeTo_92 : decode m_Que_writeTo.2.1 92 = .ok (.iconst 3, 1) := by decide +kernel
theorem d_Que_writeTo_93 : decode m_Que_writeTo.2.1 93 = .ok (.iconst 0, 1) := by decide +kernel
theorem d_Que_writeTo_94 : decode m_Que_writeTo.2.1 94 = .ok (.iload 5, 2) := by decide +kernel
theorem d_Que_writeTo_96 : decode m_Que_writeTo.2.1 96 = .ok (.iconst 0, 1) := by decide +kernel
theorem d_Que_writeTo_97 : decode m_Que_writeTo.2.1 97 = .ok (.invokevirtual 64, 3) := by decide +kernel
theorem d_Que_writeTo_100 : decode m_Que_writeTo.2.1 100 = .ok (.aload_n 1, 1) := by decide +kernel
theorem d_Que_writeTo_101 : decode m_Que_writeTo.2.1 101 = .ok (.iconst 0, 1) := by decide +kernel
theorem d_Que_writeTo_102 : decode m_Que_writeTo.2.1 102 = .ok (.iconst 0, 1) := by decide +kernel
theorem d_Que_writeTo_103 : decode m_Que_writeTo.2.1 103 = .ok (.iconst 0, 1) := by decide +kernel
theorem d_Que_writeTo_104 : decode m_Que_writeTo.2.1 104 = .ok (.iconst 0, 1) := by decide +kernel
theorem d_Que_writeTo_105 : decode m_Que_writeTo.2.1 105 = .ok (.invokevirtual 64, 3) := by decide +kernel
theorem d_Que_writeTo_108 : decode m_Que_writeTo.2.1 108 = .ok (.return_, 1) := by decide +kernel
theorem d_Que_writeStart_0 : decode m_Que_writeStart.2.1 0 = .ok (.aload_n 0, 1) := by decide +kernel
theorem d_Que_writeStart_1 : decode m_Que_writeStart.2.1 1 = .ok (.iload_n 2, 1) := by decide +kernel
theorem d_Que_writeStart_2 : decode m_Que_writeStart.2.1 2 = .ok (.invokevirtual 86, 3) := by decide +kernel
theorem d_Que_writeStart_5 : decode m_Que_writeStart.2.1 5 = .ok (.istore 4, 2) := by decide +kernel
theorem d_Que_writeStart_7 : decode m_Que_writeStart.2.1 7 = .ok (.iload 4, 2) := by decide +kernel
theorem d_Que_writeStart_9 : decode m_Que_writeStart.2.1 9 = .ok (.iconst (-1), 1) := by decide +kernel
theorem d_Que_writeStart_10 : decode m_Que_writeStart.2.1 10 = .ok (.if_icmp .ne 14, 3) := by decide +kernel
theorem d_Que_writeStart_13 : decode m_Que_writeStart.2.1 13 = .ok (.aload_n 1, 1) := by decide +kernel
theorem d_Que_writeStart_14 : decode m_Que_writeStart.2.1 14 = .ok (.iconst 2, 1) := by decide +kernel
theorem d_Que_writeStart_15 : decode m_Que_writeStart.2.1 15 = .ok (.iload_n 2, 1) := by decide +kernel
theorem d_Que_writeStart_16 : decode m_Que_writeStart.2.1 16 = .ok (.iload_n 3, 1) := by decide +kernel
theorem d_Que_writeStart_17 : decode m_Que_writeStart.2.1 17 = .ok (.iconst 0, 1) := by decide +kernel
theorem d_Que_writeStart_18 : decode m_Que_writeStart.2.1 18 = .ok (.invokevirtual 64, 3) := by decide +kernel
theorem d_Que_writeStart_21 : decode m_Que_writeStart.2.1 21 = .ok (.goto 27, 3) := by decide +kernel
theorem d_Que_writeStart_24 : decode m_Que_writeStart.2.1 24 = .ok (.aload_n 1, 1) := by decide +kernel
theorem d_Que_writeStart_25 : decode m_Que_writeStart.2.1 25 = .ok (.bipush 6, 2) := by decide +kernel
theorem d_Que_writeStart_27 : decode m_Que_writeStart.2.1 27 = .ok (.aload_n 0, 1) := by decide +kernel
theorem d_Que_writeStart_28 : decode m_Que_writeStart.2.1 28 = .ok (.getfield 40, 3) := by decide +kernel
theorem d_Que_writeStart_31 : decode m_Que_writeStart.2.1 31 = .ok (.iload 4, 2) := by decide +kernel
theorem d_Que_writeStart_33 : decode m_Que_writeStart.2.1 33 = .ok (.iaload, 1) := by decide +kernel
theorem d_Que_writeStart_34 : decode m_Que_writeStart.2.1 34 = .ok (.iconst 0, 1) := by decide +kernel
theorem d_Que_writeStart_35 : decode m_Que_writeStart.2.1 35 = .ok (.iconst 0, 1) := by decide +kernel
theorem d_Que_writeStart_36 : decode m_Que_writeStart.2.1 36 = .ok (.invokevirtual 64, 3) := by decide +kernel
theorem d_Que_writeStart_39 : decode m_Que_writeStart.2.1 39 = .ok (.aload_n 1, 1) := by decide +kernel
theorem d_Que_writeStart_40 : decode m_Que_writeStart.2.1 40 = .ok (.bipush 8, 2) := by decide +kernel
theorem d_Que_writeStart_42 : decode m_Que_writeStart.2.1 42 = .ok (.iload_n 2, 1) := by decide +kernel
theorem d_Que_writeStart_43 : decode m_Que_writeStart.2.1 43 = .ok (.iload_n 3, 1) := by decide +kernel
theorem d_Que_writeStart_44 : decode m_Que_writeStart.2.1 44 = .ok (.iconst 0, 1) := by decide +kernel
theorem d_Que_writeStart_45 : decode m_Que_writeStart.2.1 45 = .ok (.invokevirtual 64, 3) := by decide +kernel
theorem d_Que_writeStart_48 : decode m_Que_writeStart.2.1 48 = .ok (.return_, 1) := by decide +kernel
theorem d_Que_seekable_0 : decode m_Que_seekable.2.1 0 = .ok (.iconst 0, 1) := by decide +kernel
theorem d_Que_seekable_1 : decode m_Que_seekable.2.1 1 = .ok (.istore_n 2, 1) := by decide +kernel
theorem d_Que_seekable_2 : decode m_Que_seekable.2.1 2 = .ok (.iload_n 2, 1) := by decide +kernel
theorem d_Que_seekable_3 : decode m_Que_seekable.2.1 3 = .ok (.aload_n 0, 1) := by decide +kernel
theorem d_Que_seekable_4 : decode m_Que_seekable.2.1 4 = .ok (.getfield 19, 3) := by decide +kernel
theorem d_Que_seekable_7 : decode m_Que_seekable.2.1 7 = .ok (.if_icmp .ge 43, 3) := by decide +kernel
theorem d_Que_seekable_10 : decode m_Que_seekable.2.1 10 = .ok (.aload_n 0, 1) := by decide +kernel
theorem d_Que_seekable_11 : decode m_Que_seekable.2.1 11 = .ok (.getfield 31, 3) := by decide +kernel
theorem d_Que_seekable_14 : decode m_Que_seekable.2.1 14 = .ok (.iload_n 2, 1) := by decide +kernel
theorem d_Que_seekable_15 : decode m_Que_seekable.2.1 15 = .ok (.iaload, 1) := by decide +kernel
theorem d_Que_seekable_16 : decode m_Que_seekable.2.1 16 = .ok (.iload_n 1, 1) := by decide +kernel
theorem d_Que_seekable_17 : decode m_Que_seekable.2.1 17 = .ok (.if_icmp .ne 27, 3) := by decide +kernel
theorem d_Que_seekable_20 : decode m_Que_seekable.2.1 20 = .ok (.aload_n 0, 1) := by decide +kernel
theorem d_Que_seekable_21 : decode m_Que_seekable.2.1 21 = .ok (.getfield 34, 3) := by decide +kernel
theorem d_Que_seekable_24 : decode m_Que_seekable.2.1 24 = .ok (.iload_n 2, 1) := by decide +kernel
theorem d_Que_seekable_25 : decode m_Que_seekable.2.1 25 = .ok (.iaload, 1) := by decide +kernel
theorem d_Que_seekable_26 : decode m_Que_seekable.2.1 26 = .ok (.iconst (-1), 1) := by decide +kernel
theorem d_Que_seekable_27 : decode m_Que_seekable.2.1 27 = .ok (.if_icmp .ne 17, 3) := by decide +kernel
theorem d_Que_seekable_30 : decode m_Que_seekable.2.1 30 = .ok (.aload_n 0, 1) := by decide +kernel
theorem d_Que_seekable_31 : decode m_Que_seekable.2.1 31 = .ok (.getfield 37, 3) := by decide +kernel
theorem d_Que_seekable_34 : decode m_Que_seekable.2.1 34 = .ok (.iload_n 2, 1) := by decide +kernel
theorem d_Que_seekable_35 : decode m_Que_seekable.2.1 35 = .ok (.iaload, 1) := by decide +kernel
theorem d_Que_seekable_36 : decode m_Que_seekable.2.1 36 = .ok (.invokestatic 90, 3) := by decide +kernel
theorem d_Que_seekable_39 : decode m_Que_seekable.2.1 39 = .ok (.ifCond .eq 5, 3) := by decide +kernel
theorem d_Que_seekable_42 : decode m_Que_seekable.2.1 42 = .ok (.iload_n 2, 1) := by decide +kernel
theorem d_Que_seekable_43 : decode m_Que_seekable.2.1 43 = .ok (.ireturn, 1) := by decide +kernel
theorem d_Que_seekable_44 : decode m_Que_seekable.2.1 44 = .ok (.iinc 2 1, 3) := by decide +kernel
theorem d_Que_seekable_47 : decode m_Que_seekable.2.1 47 = .ok (.goto (-45), 3) := by decide +kernel
theorem d_Que_seekable_50 : decode m_Que_seekable.2.1 50 = .ok (.iconst (-1), 1) := by decide +kernel
theorem d_Que_seekable_51 : decode m_Que_seekable.2.1 51 = .ok (.ireturn, 1) := by decide +kernel
theorem d_Que_isFromBelow_0 : decode m_Que_isFromBelow.2.1 0 = .ok (.iload_n 0, 1) := by decide +kernel
theorem d_Que_isFromBelow_1 : decode m_Que_isFromBelow.2.1 1 = .ok (.ifCond .eq 13, 3) := by decide +kernel
theorem d_Que_isFromBelow_4 : decode m_Que_isFromBelow.2.1 4 = .ok (.iload_n 0, 1) := by decide +kernel
theorem d_Que_isFromBelow_5 : decode m_Que_isFromBelow.2.1 5 = .ok (.iconst 4, 1) := by decide +kernel
theorem d_Que_isFromBelow_6 : decode m_Que_isFromBelow.2.1 6 = .ok (.if_icmp .eq 8, 3) := by decide +kernel
theorem d_Que_isFromBelow_9 : decode m_Que_isFromBelow.2.1 9 = .ok (.iload_n 0, 1) := by decide +kernel
theorem d_Que_isFromBelow_10 : decode m_Que_isFromBelow.2.1 10 = .ok (.iconst 5, 1) := by decide +kernel
theorem d_Que_isFromBelow_11 : decode m_Que_isFromBelow.2.1 11 = .ok (.if_icmp .ne 7, 3) := by decide +kernel
theorem d_Que_isFromBelow_14 : decode m_Que_isFromBelow.2.1 14 = .ok (.iconst 1, 1) := by decide +kernel
theorem d_Que_isFromBelow_15 : decode m_Que_isFromBelow.2.1 15 = .ok (.goto 4, 3) := by decide +kernel
theorem d_Que_isFromBelow_18 : decode m_Que_isFromBelow.2.1 18 = .ok (.iconst 0, 1) := by decide +kernel
theorem d_Que_isFromBelow_19 : decode m_Que_isFromBelow.2.1 19 = .ok (.ireturn, 1) := by decide +kernel
theorem d_Que_writeConditions_0 : decode m_Que_writeConditions.2.1 0 = .ok (.iconst 0, 1) := by decide +kernel
theorem d_Que_writeConditions_1 : decode m_Que_writeConditions.2.1 1 = .ok (.istore 4, 2) := by decide +kernel
theorem d_Que_writeConditions_3 : decode m_Que_writeConditions.2.1 3 = .ok (.iload 4, 2) := by decide +kernel
theorem d_Que_writeConditions_5 : decode m_Que_writeConditions.2.1 5 = .ok (.aload_n 0, 1) := by decide +kernel
theorem d_Que_writeConditions_6 : decode m_Que_writeConditions.2.1 6 = .ok (.getfield 19, 3) := by decide +kernel
theorem d_Que_writeConditions_9 : decode m_Que_writeConditions.2.1 9 = .ok (.if_icmp .ge 28, 3) := by decide +kernel
theorem d_Que_writeConditions_12 : decode m_Que_writeConditions.2.1 12 = .ok (.aload_n 0, 1) := by decide +kernel
theorem d_Que_writeConditions_13 : decode m_Que_writeConditions.2.1 13 = .ok (.getfield 31, 3) := by decide +kernel
theorem d_Que_writeConditions_16 : decode m_Que_writeConditions.2.1 16 = .ok (.iload 4, 2) := by decide +kernel
theorem d_Que_writeConditions_18 : decode m_Que_writeConditions.2.1 18 = .ok (.iaload, 1) := by decide +kernel
theorem d_Que_writeConditions_19 : decode m_Que_writeConditions.2.1 19 = .ok (.iload_n 2, 1) := by decide +kernel
theorem d_Que_writeConditions_20 : decode m_Que_writeConditions.2.1 20 = .ok (.if_icmp .ne 11, 3) := by decide +kernel
theorem d_Que_writeConditions_23 : decode m_Que_writeConditions.2.1 23 = .ok (.aload_n 0, 1) := by decide +kernel
theorem d_Que_writeConditions_24 : decode m_Que_writeConditions.2.1 24 = .ok (.aload_n 1, 1) := by decide +kernel
theorem d_Que_writeConditions_25 : decode m_Que_writeConditions.2.1 25 = .ok (.iload 4, 2) := by decide +kernel
theorem d_Que_writeConditions_27 : decode m_Que_writeConditions.2.1 27 = .ok (.iload_n 3, 1) := by decide +kernel
theorem d_Que_writeConditions_28 : decode m_Que_writeConditions.2.1 28 = .ok (.invokevirtual 94, 3) := by decide +kernel
theorem d_Que_writeConditions_31 : decode m_Que_writeConditions.2.1 31 = .ok (.iinc 4 1, 3) := by decide +kernel
theorem d_Que_writeConditions_34 : decode m_Que_writeConditions.2.1 34 = .ok (.goto (-31), 3) := by decide +kernel
theorem d_Que_writeConditions_37 : decode m_Que_writeConditions.2.1 37 = .ok (.return_, 1) := by decide +kernel
theorem d_Que_writeCondition_0 : decode m_Que_writeCondition.2.1 0 = .ok (.aload_n 0, 1) := by decide +kernel
theorem d_Que_writeCondition_1 : decode m_Que_writeCondition.2.1 1 = .ok (.aload_n 1, 1) := by decide +kernel
theorem d_Que_writeCondition_2 : decode m_Que_writeCondition.2.1 2 = .ok (.aload_n 0, 1) := by decide +kernel
theorem d_Que_writeCondition_3 : decode m_Que_writeCondition.2.1 3 = .ok (.getfield 31, 3) := by decide +kernel
theorem d_Que_writeCondition_6 : decode m_Que_writeCondition.2.1 6 = .ok (.iload_n 2, 1) := by decide +kernel
theorem d_Que_writeCondition_7 : decode m_Que_writeCondition.2.1 7 = .ok (.iaload, 1) := by decide +kernel
theorem d_Que_writeCondition_8 : decode m_Que_writeCondition.2.1 8 = .ok (.aload_n 0, 1) := by decide +kernel
theorem d_Que_writeCondition_9 : decode m_Que_writeCondition.2.1 9 = .ok (.getfield 34, 3) := by decide +kernel
theorem d_Que_writeCondition_12 : decode m_Que_writeCondition.2.1 12 = .ok (.iload_n 2, 1) := by decide +kernel
theorem d_Que_writeCondition_13 : decode m_Que_writeCondition.2.1 13 = .ok (.iaload, 1) := by decide +kernel
theorem d_Que_writeCondition_14 : decode m_Que_writeCondition.2.1 14 = .ok (.iconst 0, 1) := by decide +kernel
theorem d_Que_writeCondition_15 : decode m_Que_writeCondition.2.1 15 = .ok (.invokevirtual 97, 3) := by decide +kernel
theorem d_Que_writeCondition_18 : decode m_Que_writeCondition.2.1 18 = .ok (.bipush 9, 2) := by decide +kernel
theorem d_Que_writeCondition_20 : decode m_Que_writeCondition.2.1 20 = .ok (.aload_n 0, 1) := by decide +kernel
theorem d_Que_writeCondition_21 : decode m_Que_writeCondition.2.1 21 = .ok (.getfield 37, 3) := by decide +kernel
theorem d_Que_writeCondition_24 : decode m_Que_writeCondition.2.1 24 = .ok (.iload_n 2, 1) := by decide +kernel
theorem d_Que_writeCondition_25 : decode m_Que_writeCondition.2.1 25 = .ok (.iaload, 1) := by decide +kernel
theorem d_Que_writeCondition_26 : decode m_Que_writeCondition.2.1 26 = .ok (.iadd, 1) := by decide +kernel
theorem d_Que_writeCondition_27 : decode m_Que_writeCondition.2.1 27 = .ok (.istore 4, 2) := by decide +kernel
theorem d_Que_writeCondition_29 : decode m_Que_writeCondition.2.1 29 = .ok (.aload_n 0, 1) := by decide +kernel
theorem d_Que_writeCondition_30 : decode m_Que_writeCondition.2.1 30 = .ok (.getfield 37, 3) := by decide +kernel
theorem d_Que_writeCondition_33 : decode m_Que_writeCondition.2.1 33 = .ok (.iload_n 2, 1) := by decide +kernel
theorem d_Que_writeCondition_34 : decode m_Que_writeCondition.2.1 34 = .ok (.iaload, 1) := by decide +kernel
theorem d_Que_writeCondition_35 : decode m_Que_writeCondition.2.1 35 = .ok (.bipush 6, 2) := by decide +kernel
theorem d_Que_writeCondition_37 : decode m_Que_writeCondition.2.1 37 = .ok (.if_icmp .ge 29, 3) := by decide +kernel
theorem d_Que_writeCondition_40 : decode m_Que_writeCondition.2.1 40 = .ok (.aload_n 1, 1) := by decide +kernel
theorem d_Que_writeCondition_41 : decode m_Que_writeCondition.2.1 41 = .ok (.bipush 6, 2) := by decide +kernel
theorem d_Que_writeCondition_43 : decode m_Que_writeCondition.2.1 43 = .ok (.aload_n 0, 1) := by decide +kernel
theorem d_Que_writeCondition_44 : decode m_Que_writeCondition.2.1 44 = .ok (.getfield 40, 3) := by decide +kernel
theorem d_Que_writeCondition_47 : decode m_Que_writeCondition.2.1 47 = .ok (.iload_n 2, 1) := by decide +kernel
theorem d_Que_writeCondition_48 : decode m_Que_writeCondition.2.1 48 = .ok (.iaload, 1) := by decide +kernel
theorem d_Que_writeCondition_49 : decode m_Que_writeCondition.2.1 49 = .ok (.iconst 1, 1) := by decide +kernel
theorem d_Que_writeCondition_50 : decode m_Que_writeCondition.2.1 50 = .ok (.iconst 0, 1) := by decide +kernel
theorem d_Que_writeCondition_51 : decode m_Que_writeCondition.2.1 51 = .ok (.invokevirtual 64, 3) := by decide +kernel
theorem d_Que_writeCondition_54 : decode m_Que_writeCondition.2.1 54 = .ok (.aload_n 0, 1) := by decide +kernel
theorem d_Que_writeCondition_55 : decode m_Que_writeCondition.2.1 55 = .ok (.aload_n 1, 1) := by decide +kernel
theorem d_Que_writeCondition_56 : decode m_Que_writeCondition.2.1 56 = .ok (.iload 4, 2) := by decide +kernel
theorem d_Que_writeCondition_58 : decode m_Que_writeCondition.2.1 58 = .ok (.iconst 1, 1) := by decide +kernel
theorem d_Que_writeCondition_59 : decode m_Que_writeCondition.2.1 59 = .ok (.iload_n 3, 1) := by decide +kernel
theorem d_Que_writeCondition_60 : decode m_Que_writeCondition.2.1 60 = .ok (.invokevirtual 101, 3) := by decide +kernel
theorem d_Que_writeCondition_63 : decode m_Que_writeCondition.2.1 63 = .ok (.goto 12, 3) := by decide +kernel
theorem d_Que_writeCondition_66 : decode m_Que_writeCondition.2.1 66 = .ok (.aload_n 0, 1) := by decide +kernel
theorem d_Que_writeCondition_67 : decode m_Que_writeCondition.2.1 67 = .ok (.aload_n 1, 1) := by decide +kernel
theorem d_Que_writeCondition_68 : decode m_Que_writeCondition.2.1 68 = .ok (.iload 4, 2) := by decide +kernel
theorem d_Que_writeCondition_70 : decode m_Que_writeCondition.2.1 70 = .ok (.iconst 0, 1) := by decide +kernel
theorem d_Que_writeCondition_71 : decode m_Que_writeCondition.2.1 71 = .ok (.iload_n 3, 1) := by decide +kernel
theorem d_Que_writeCondition_72 : decode m_Que_writeCondition.2.1 72 = .ok (.invokevirtual 101, 3) := by decide +kernel
theorem d_Que_writeCondition_75 : decode m_Que_writeCondition.2.1 75 = .ok (.return_, 1) := by decide +kernel
theorem d_Que_writeColumn_0 : decode m_Que_writeColumn.2.1 0 = .ok (.iload_n 3, 1) := by decide +kernel
theorem d_Que_writeColumn_1 : decode m_Que_writeColumn.2.1 1 = .ok (.iconst (-1), 1) := by decide +kernel
theorem d_Que_writeColumn_2 : decode m_Que_writeColumn.2.1 2 = .ok (.if_icmp .ne 15, 3) := by decide +kernel
theorem d_Que_writeColumn_5 : decode m_Que_writeColumn.2.1 5 = .ok (.aload_n 1, 1) := by decide +kernel
theorem d_Que_writeColumn_6 : decode m_Que_writeColumn.2.1 6 = .ok (.iconst 5, 1) := by decide +kernel
theorem d_Que_writeColumn_7 : decode m_Que_writeColumn.2.1 7 = .ok (.iload_n 2, 1) := by decide +kernel
theorem d_Que_writeColumn_8 : decode m_Que_writeColumn.2.1 8 = .ok (.iload 4, 2) := by decide +kernel
theorem d_Que_writeColumn_10 : decode m_Que_writeColumn.2.1 10 = .ok (.iconst 0, 1) := by decide +kernel
theorem d_Que_writeColumn_11 : decode m_Que_writeColumn.2.1 11 = .ok (.invokevirtual 64, 3) := by decide +kernel
theorem d_Que_writeColumn_14 : decode m_Que_writeColumn.2.1 14 = .ok (.goto 12, 3) := by decide +kernel
theorem d_Que_writeColumn_17 : decode m_Que_writeColumn.2.1 17 = .ok (.aload_n 1, 1) := by decide +kernel
theorem d_Que_writeColumn_18 : decode m_Que_writeColumn.2.1 18 = .ok (.iconst 4, 1) := by decide +kernel
theorem d_Que_writeColumn_19 : decode m_Que_writeColumn.2.1 19 = .ok (.iload_n 2, 1) := by decide +kernel
theorem d_Que_writeColumn_20 : decode m_Que_writeColumn.2.1 20 = .ok (.iload_n 3, 1) := by decide +kernel
theorem d_Que_writeColumn_21 : decode m_Que_writeColumn.2.1 21 = .ok (.iload 4, 2) := by decide +kernel
theorem d_Que_writeColumn_23 : decode m_Que_writeColumn.2.1 23 = .ok (.invokevirtual 64, 3) := by decide +kernel
theorem d_Que_writeColumn_26 : decode m_Que_writeColumn.2.1 26 = .ok (.return_, 1) := by decide +kernel
theorem d_Que_writeTest_0 : decode m_Que_writeTest.2.1 0 = .ok (.aload_n 1, 1) := by decide +kernel
theorem d_Que_writeTest_1 : decode m_Que_writeTest.2.1 1 = .ok (.iload_n 2, 1) := by decide +kernel
theorem d_Que_writeTest_2 : decode m_Que_writeTest.2.1 2 = .ok (.iconst 0, 1) := by decide +kernel
theorem d_Que_writeTest_3 : decode m_Que_writeTest.2.1 3 = .ok (.aload_n 1, 1) := by decide +kernel
theorem d_Que_writeTest_4 : decode m_Que_writeTest.2.1 4 = .ok (.getfield 57, 3) := by decide +kernel
theorem d_Que_writeTest_7 : decode m_Que_writeTest.2.1 7 = .ok (.iconst 2, 1) := by decide +kernel
theorem d_Que_writeTest_8 : decode m_Que_writeTest.2.1 8 = .ok (.iadd, 1) := by decide +kernel
theorem d_Que_writeTest_9 : decode m_Que_writeTest.2.1 9 = .ok (.iload_n 3, 1) := by decide +kernel
theorem d_Que_writeTest_10 : decode m_Que_writeTest.2.1 10 = .ok (.invokevirtual 64, 3) := by decide +kernel
theorem d_Que_writeTest_13 : decode m_Que_writeTest.2.1 13 = .ok (.aload_n 1, 1) := by decide +kernel
theorem d_Que_writeTest_14 : decode m_Que_writeTest.2.1 14 = .ok (.bipush 19, 2) := by decide +kernel
theorem d_Que_writeTest_16 : decode m_Que_writeTest.2.1 16 = .ok (.iload 4, 2) := by decide +kernel
theorem d_Que_writeTest_18 : decode m_Que_writeTest.2.1 18 = .ok (.iconst 0, 1) := by decide +kernel
theorem d_Que_writeTest_19 : decode m_Que_writeTest.2.1 19 = .ok (.iconst 0, 1) := by decide +kernel
theorem d_Que_writeTest_20 : decode m_Que_writeTest.2.1 20 = .ok (.invokevirtual 64, 3) := by decide +kernel
theorem d_Que_writeTest_23 : decode m_Que_writeTest.2.1 23 = .ok (.return_, 1) := by decide +kernel
theorem d_Que_writeInnerLoop_0 : decode m_Que_writeInnerLoop.2.1 0 = .ok (.iload_n 2, 1) := by decide +kernel
theorem d_Que_writeInnerLoop_1 : decode m_Que_writeInnerLoop.2.1 1 = .ok (.iconst 1, 1) := by decide +kernel
theorem d_Que_writeInnerLoop_2 : decode m_Que_writeInnerLoop.2.1 2 = .ok (.isub, 1) := by decide +kernel
theorem d_Que_writeInnerLoop_3 : decode m_Que_writeInnerLoop.2.1 3 = .ok (.istore_n 3, 1) := by decide +kernel
theorem d_Que_writeInnerLoop_4 : decode m_Que_writeInnerLoop.2.1 4 = .ok (.aload_n 0, 1) := by decide +kernel
theorem d_Que_writeInnerLoop_5 : decode m_Que_writeInnerLoop.2.1 5 = .ok (.aload_n 1, 1) := by decide +kernel
theorem d_Que_writeInnerLoop_6 : decode m_Que_writeInnerLoop.2.1 6 = .ok (.iconst 1, 1) := by decide +kernel
theorem d_Que_writeInnerLoop_7 : decode m_Que_writeInnerLoop.2.1 7 = .ok (.iload_n 2, 1) := by decide +kernel
theorem d_Que_writeInnerLoop_8 : decode m_Que_writeInnerLoop.2.1 8 = .ok (.invokevirtual 68, 3) := by decide +kernel
theorem d_Que_writeInnerLoop_11 : decode m_Que_writeInnerLoop.2.1 11 = .ok (.aload_n 1, 1) := by decide +kernel
theorem d_Que_writeInnerLoop_12 : decode m_Que_writeInnerLoop.2.1 12 = .ok (.getfield 57, 3) := by decide +kernel
theorem d_Que_writeInnerLoop_15 : decode m_Que_writeInnerLoop.2.1 15 = .ok (.istore 4, 2) := by decide +kernel
theorem d_Que_writeInnerLoop_17 : decode m_Que_writeInnerLoop.2.1 17 = .ok (.aload_n 0, 1) := by decide +kernel
theorem d_Que_writeInnerLoop_18 : decode m_Que_writeInnerLoop.2.1 18 = .ok (.aload_n 1, 1) := by decide +kernel
theorem d_Que_writeInnerLoop_19 : decode m_Que_writeInnerLoop.2.1 19 = .ok (.iconst 1, 1) := by decide +kernel
theorem d_Que_writeInnerLoop_20 : decode m_Que_writeInnerLoop.2.1 20 = .ok (.iload_n 3, 1) := by decide +kernel
theorem d_Que_writeInnerLoop_21 : decode m_Que_writeInnerLoop.2.1 21 = .ok (.invokevirtual 72, 3) := by decide +kernel
theorem d_Que_writeInnerLoop_24 : decode m_Que_writeInnerLoop.2.1 24 = .ok (.aload_n 0, 1) := by decide +kernel
theorem d_Que_writeInnerLoop_25 : decode m_Que_writeInnerLoop.2.1 25 = .ok (.getfield 43, 3) := by decide +kernel
theorem d_Que_writeInnerLoop_28 : decode m_Que_writeInnerLoop.2.1 28 = .ok (.ifCond .eq 9, 3) := by decide +kernel
theorem d_Que_writeInnerLoop_31 : decode m_Que_writeInnerLoop.2.1 31 = .ok (.aload_n 0, 1) := by decide +kernel
theorem d_Que_writeInnerLoop_32 : decode m_Que_writeInnerLoop.2.1 32 = .ok (.aload_n 1, 1) := by decide +kernel
theorem d_Que_writeInnerLoop_33 : decode m_Que_writeInnerLoop.2.1 33 = .ok (.iload_n 3, 1) := by decide +kernel
theorem d_Que_writeInnerLoop_34 : decode m_Que_writeInnerLoop.2.1 34 = .ok (.invokevirtual 83, 3) := by decide +kernel
theorem d_Que_writeInnerLoop_37 : decode m_Que_writeInnerLoop.2.1 37 = .ok (.aload_n 0, 1) := by decide +kernel
theorem d_Que_writeInnerLoop_38 : decode m_Que_writeInnerLoop.2.1 38 = .ok (.aload_n 1, 1) := by decide +kernel
theorem d_Que_writeInnerLoop_39 : decode m_Que_writeInnerLoop.2.1 39 = .ok (.invokevirtual 79, 3) := by decide +kernel
theorem d_Que_writeInnerLoop_42 : decode m_Que_writeInnerLoop.2.1 42 = .ok (.aload_n 1, 1) := by decide +kernel
theorem d_Que_writeInnerLoop_43 : decode m_Que_writeInnerLoop.2.1 43 = .ok (.iconst 3, 1) := by decide +kernel
theorem d_Que_writeInnerLoop_44 : decode m_Que_writeInnerLoop.2.1 44 = .ok (.iconst 1, 1) := by decide +kernel
theorem d_Que_writeInnerLoop_45 : decode m_Que_writeInnerLoop.2.1 45 = .ok (.iload 4, 2) := by decide +kernel
theorem d_Que_writeInnerLoop_47 : decode m_Que_writeInnerLoop.2.1 47 = .ok (.iconst 0, 1) := by decide +kernel
theorem d_Que_writeInnerLoop_48 : decode m_Que_writeInnerLoop.2.1 48 = .ok (.invokevirtual 64, 3) := by decide +kernel
theorem d_Que_writeInnerLoop_51 : decode m_Que_writeInnerLoop.2.1 51 = .ok (.return_, 1) := by decide +kernel
theorem d_Que_writeJoin_0 : decode m_Que_writeJoin.2.1 0 = .ok (.aload_n 0, 1) := by decide +kernel
theorem d_Que_writeJoin_1 : decode m_Que_writeJoin.2.1 1 = .ok (.aload_n 1, 1) := by decide +kernel
theorem d_Que_writeJoin_2 : decode m_Que_writeJoin.2.1 2 = .ok (.iconst 0, 1) := by decide +kernel
theorem d_Que_writeJoin_3 : decode m_Que_writeJoin.2.1 3 = .ok (.aload_n 0, 1) := by decide +kernel
theorem d_Que_writeJoin_4 : decode m_Que_writeJoin.2.1 4 = .ok (.getfield 47, 3) := by decide +kernel
theorem d_Que_writeJoin_7 : decode m_Que_writeJoin.2.1 7 = .ok (.iconst 0, 1) := by decide +kernel
theorem d_Que_writeJoin_8 : decode m_Que_writeJoin.2.1 8 = .ok (.invokevirtual 97, 3) := by decide +kernel
theorem d_Que_writeJoin_11 : decode m_Que_writeJoin.2.1 11 = .ok (.aload_n 0, 1) := by decide +kernel
theorem d_Que_writeJoin_12 : decode m_Que_writeJoin.2.1 12 = .ok (.aload_n 1, 1) := by decide +kernel
theorem d_Que_writeJoin_13 : decode m_Que_writeJoin.2.1 13 = .ok (.iconst 1, 1) := by decide +kernel
theorem d_Que_writeJoin_14 : decode m_Que_writeJoin.2.1 14 = .ok (.aload_n 0, 1) := by decide +kernel
theorem d_Que_writeJoin_15 : decode m_Que_writeJoin.2.1 15 = .ok (.getfield 50, 3) := by decide +kernel
theorem d_Que_writeJoin_18 : decode m_Que_writeJoin.2.1 18 = .ok (.iconst 1, 1) := by decide +kernel
theorem d_Que_writeJoin_19 : decode m_Que_writeJoin.2.1 19 = .ok (.invokevirtual 97, 3) := by decide +kernel
theorem d_Que_writeJoin_22 : decode m_Que_writeJoin.2.1 22 = .ok (.aload_n 0, 1) := by decide +kernel
theorem d_Que_writeJoin_23 : decode m_Que_writeJoin.2.1 23 = .ok (.aload_n 1, 1) := by decide +kernel
theorem d_Que_writeJoin_24 : decode m_Que_writeJoin.2.1 24 = .ok (.bipush 9, 2) := by decide +kernel
theorem d_Que_writeJoin_26 : decode m_Que_writeJoin.2.1 26 = .ok (.iconst 1, 1) := by decide +kernel
theorem d_Que_writeJoin_27 : decode m_Que_writeJoin.2.1 27 = .ok (.iload_n 2, 1) := by decide +kernel
theorem d_Que_writeJoin_28 : decode m_Que_writeJoin.2.1 28 = .ok (.invokevirtual 101, 3) := by decide +kernel
theorem d_Que_writeJoin_31 : decode m_Que_writeJoin.2.1 31 = .ok (.return_, 1) := by decide +kernel
theorem d_Que_writeOutputs_0 : decode m_Que_writeOutputs.2.1 0 = .ok (.iconst 0, 1) := by decide +kernel
theorem d_Que_writeOutputs_1 : decode m_Que_writeOutputs.2.1 1 = .ok (.istore_n 2, 1) := by decide +kernel
theorem d_Que_writeOutputs_2 : decode m_Que_writeOutputs.2.1 2 = .ok (.iload_n 2, 1) := by decide +kernel
theorem d_Que_writeOutputs_3 : decode m_Que_writeOutputs.2.1 3 = .ok (.aload_n 0, 1) := by decide +kernel
theorem d_Que_writeOutputs_4 : decode m_Que_writeOutputs.2.1 4 = .ok (.getfield 15, 3) := by decide +kernel
theorem d_Que_writeOutputs_7 : decode m_Que_writeOutputs.2.1 7 = .ok (.if_icmp .ge 29, 3) := by decide +kernel
theorem d_Que_writeOutputs_10 : decode m_Que_writeOutputs.2.1 10 = .ok (.aload_n 0, 1) := by decide +kernel
theorem d_Que_writeOutputs_11 : decode m_Que_writeOutputs.2.1 11 = .ok (.aload_n 1, 1) := by decide +kernel
theorem d_Que_writeOutputs_12 : decode m_Que_writeOutputs.2.1 12 = .ok (.aload_n 0, 1) := by decide +kernel
theorem d_Que_writeOutputs_13 : decode m_Que_writeOutputs.2.1 13 = .ok (.getfield 25, 3) := by decide +kernel
theorem d_Que_writeOutputs_16 : decode m_Que_writeOutputs.2.1 16 = .ok (.iload_n 2, 1) := by decide +kernel
theorem d_Que_writeOutputs_17 : decode m_Que_writeOutputs.2.1 17 = .ok (.iaload, 1) := by decide +kernel
theorem d_Que_writeOutputs_18 : decode m_Que_writeOutputs.2.1 18 = .ok (.aload_n 0, 1) := by decide +kernel
theorem d_Que_writeOutputs_19 : decode m_Que_writeOutputs.2.1 19 = .ok (.getfield 28, 3) := by decide +kernel
theorem d_Que_writeOutputs_22 : decode m_Que_writeOutputs.2.1 22 = .ok (.iload_n 2, 1) := by decide +kernel
theorem d_Que_writeOutputs_23 : decode m_Que_writeOutputs.2.1 23 = .ok (.iaload, 1) := by decide +kernel
theorem d_Que_writeOutputs_24 : decode m_Que_writeOutputs.2.1 24 = .ok (.iconst 2, 1) := by decide +kernel
theorem d_Que_writeOutputs_25 : decode m_Que_writeOutputs.2.1 25 = .ok (.iload_n 2, 1) := by decide +kernel
theorem d_Que_writeOutputs_26 : decode m_Que_writeOutputs.2.1 26 = .ok (.iadd, 1) := by decide +kernel
theorem d_Que_writeOutputs_27 : decode m_Que_writeOutputs.2.1 27 = .ok (.invokevirtual 97, 3) := by decide +kernel
theorem d_Que_writeOutputs_30 : decode m_Que_writeOutputs.2.1 30 = .ok (.iinc 2 1, 3) := by decide +kernel
theorem d_Que_writeOutputs_33 : decode m_Que_writeOutputs.2.1 33 = .ok (.goto (-31), 3) := by decide +kernel
theorem d_Que_writeOutputs_36 : decode m_Que_writeOutputs.2.1 36 = .ok (.aload_n 1, 1) := by decide +kernel
theorem d_Que_writeOutputs_37 : decode m_Que_writeOutputs.2.1 37 = .ok (.bipush 18, 2) := by decide +kernel
theorem d_Que_writeOutputs_39 : decode m_Que_writeOutputs.2.1 39 = .ok (.iconst 2, 1) := by decide +kernel
theorem d_Que_writeOutputs_40 : decode m_Que_writeOutputs.2.1 40 = .ok (.aload_n 0, 1) := by decide +kernel
theorem d_Que_writeOutputs_41 : decode m_Que_writeOutputs.2.1 41 = .ok (.getfield 15, 3) := by decide +kernel
theorem d_Que_writeOutputs_44 : decode m_Que_writeOutputs.2.1 44 = .ok (.iconst 0, 1) := by decide +kernel
theorem d_Que_writeOutputs_45 : decode m_Que_writeOutputs.2.1 45 = .ok (.invokevirtual 64, 3) := by decide +kernel
theorem d_Que_writeOutputs_48 : decode m_Que_writeOutputs.2.1 48 = .ok (.return_, 1) := by decide +kernel
end
section
theorem d_Mod_init_0 : decode m_Mod_init.2.1 0 = .ok (.aload_n 0, 1) := by decide +kernel
theorem d_Mod_init_1 : decode m_Mod_init.2.1 1 = .ok (.invokespecial 1, 3) := by decide +kernel
theorem d_Mod_init_4 : decode m_Mod_init.2.1 4 = .ok (.aload_n 0, 1) := by decide +kernel
theorem d_Mod_init_5 : decode m_Mod_init.2.1 5 = .ok (.iconst 3, 1) := by decide +kernel
theorem d_Mod_init_6 : decode m_Mod_init.2.1 6 = .ok (.newarray .int, 2) := by decide +kernel
theorem d_Mod_init_8 : decode m_Mod_init.2.1 8 = .ok (.putfield 7, 3) := by decide +kernel
theorem d_Mod_init_11 : decode m_Mod_init.2.1 11 = .ok (.aload_n 0, 1) := by decide +kernel
theorem d_Mod_init_12 : decode m_Mod_init.2.1 12 = .ok (.bipush 90, 2) := by decide +kernel
theorem d_Mod_init_14 : decode m_Mod_init.2.1 14 = .ok (.newarray .int, 2) := by decide +kernel
theorem d_Mod_init_16 : decode m_Mod_init.2.1 16 = .ok (.putfield 13, 3) := by decide +kernel
theorem d_Mod_init_19 : decode m_Mod_init.2.1 19 = .ok (.aload_n 0, 1) := by decide +kernel
theorem d_Mod_init_20 : decode m_Mod_init.2.1 20 = .ok (.bipush 90, 2) := by decide +kernel
theorem d_Mod_init_22 : decode m_Mod_init.2.1 22 = .ok (.newarray .long, 2) := by decide +kernel
theorem d_Mod_init_24 : decode m_Mod_init.2.1 24 = .ok (.putfield 16, 3) := by decide +kernel
theorem d_Mod_init_27 : decode m_Mod_init.2.1 27 = .ok (.aload_n 0, 1) := by decide +kernel
theorem d_Mod_init_28 : decode m_Mod_init.2.1 28 = .ok (.sipush 360, 3) := by decide +kernel
theorem d_Mod_init_31 : decode m_Mod_init.2.1 31 = .ok (.newarray .long, 2) := by decide +kernel
theorem d_Mod_init_33 : decode m_Mod_init.2.1 33 = .ok (.putfield 20, 3) := by decide +kernel
theorem d_Mod_init_36 : decode m_Mod_init.2.1 36 = .ok (.aload_n 0, 1) := by decide +kernel
theorem d_Mod_init_37 : decode m_Mod_init.2.1 37 = .ok (.sipush 360, 3) := by decide +kernel
theorem d_Mod_init_40 : decode m_Mod_init.2.1 40 = .ok (.newarray .boolean, 2) := by decide +kernel
theorem d_Mod_init_42 : decode m_Mod_init.2.1 42 = .ok (.putfield 23, 3) := by decide +kernel
theorem d_Mod_init_45 : decode m_Mod_init.2.1 45 = .ok (.aload_n 0, 1) := by decide +kernel
theorem d_Mod_init_46 : decode m_Mod_init.2.1 46 = .ok (.iconst 4, 1) := by decide +kernel
theorem d_Mod_init_47 : decode m_Mod_init.2.1 47 = .ok (.newarray .long, 2) := by decide +kernel
theorem d_Mod_init_49 : decode m_Mod_init.2.1 49 = .ok (.putfield 27, 3) := by decide +kernel
theorem d_Mod_init_52 : decode m_Mod_init.2.1 52 = .ok (.aload_n 0, 1) := by decide +kernel
theorem d_Mod_init_53 : decode m_Mod_init.2.1 53 = .ok (.iconst 4, 1) := by decide +kernel
theorem d_Mod_init_54 : decode m_Mod_init.2.1 54 = .ok (.newarray .boolean, 2) := by decide +kernel
theorem d_Mod_init_56 : decode m_Mod_init.2.1 56 = .ok (.putfield 30, 3) := by decide +kernel
theorem d_Mod_init_59 : decode m_Mod_init.2.1 59 = .ok (.aload_n 0, 1) := by decide +kernel
theorem d_Mod_init_60 : decode m_Mod_init.2.1 60 = .ok (.sipush 240, 3) := by decide +kernel
theorem d_Mod_init_63 : decode m_Mod_init.2.1 63 = .ok (.newarray .int, 2) := by decide +kernel
theorem d_Mod_init_65 : decode m_Mod_init.2.1 65 = .ok (.putfield 33, 3) := by decide +kernel
theorem d_Mod_init_68 : decode m_Mod_init.2.1 68 = .ok (.aload_n 0, 1) := by decide +kernel
theorem d_Mod_init_69 : decode m_Mod_init.2.1 69 = .ok (.bipush 16, 2) := by decide +kernel
theorem d_Mod_init_71 : decode m_Mod_init.2.1 71 = .ok (.newarray .long, 2) := by decide +kernel
theorem d_Mod_init_73 : decode m_Mod_init.2.1 73 = .ok (.putfield 36, 3) := by decide +kernel
theorem d_Mod_init_76 : decode m_Mod_init.2.1 76 = .ok (.aload_n 0, 1) := by decide +kernel
theorem d_Mod_init_77 : decode m_Mod_init.2.1 77 = .ok (.bipush 16, 2) := by decide +kernel
theorem d_Mod_init_79 : decode m_Mod_init.2.1 79 = .ok (.newarray .boolean, 2) := by decide +kernel
theorem d_Mod_init_81 : decode m_Mod_init.2.1 81 = .ok (.putfield 39, 3) := by decide +kernel
theorem d_Mod_init_84 : decode m_Mod_init.2.1 84 = .ok (.aload_n 0, 1) := by decide +kernel
theorem d_Mod_init_85 : decode m_Mod_init.2.1 85 = .ok (.iconst 3, 1) := by decide +kernel
theorem d_Mod_init_86 : decode m_Mod_init.2.1 86 = .ok (.newarray .int, 2) := by decide +kernel
theorem d_Mod_init_88 : decode m_Mod_init.2.1 88 = .ok (.putfield 42, 3) := by decide +kernel
theorem d_Mod_init_91 : decode m_Mod_init.2.1 91 = .ok (.aload_n 0, 1) := by decide +kernel
theorem d_Mod_init_92 : decode m_Mod_init.2.1 92 = .ok (.iconst 3, 1) := by decide +kernel
theorem d_Mod_init_93 : decode m_Mod_init.2.1 93 = .ok (.newarray .boolean, 2) := by decide +kernel
theorem d_Mod_init_95 : decode m_Mod_init.2.1 95 = .ok (.putfield 45, 3) := by decide +kernel
theorem d_Mod_init_98 : decode m_Mod_init.2.1 98 = .ok (.aload_n 0, 1) := by decide +kernel
theorem d_Mod_init_99 : decode m_Mod_init.2.1 99 = .ok (.iconst 3, 1) := by decide +kernel
theorem d_Mod_init_100 : decode m_Mod_init.2.1 100 = .ok (.newarray .long, 2) := by decide +kernel
theorem d_Mod_init_102 : decode m_Mod_init.2.1 102 = .ok (.putfield 48, 3) := by decide +kernel
theorem d_Mod_init_105 : decode m_Mod_init.2.1 105 = .ok (.aload_n 0, 1) := by decide +kernel
theorem d_Mod_init_106 : decode m_Mod_init.2.1 106 = .ok (.bipush 64, 2) := by decide +kernel
theorem d_Mod_init_108 : decode m_Mod_init.2.1 108 = .ok (.newarray .int, 2) := by decide +kernel
theorem d_Mod_init_110 : decode m_Mod_init.2.1 110 = .ok (.putfield 51, 3) := by decide +kernel
theorem d_Mod_init_113 : decode m_Mod_init.2.1 113 = .ok (.aload_n 0, 1) := by decide +kernel
theorem d_Mod_init_114 : decode m_Mod_init.2.1 114 = .ok (.sipush 256, 3) := by decide +kernel
theorem d_Mod_init_117 : decode m_Mod_init.2.1 117 = .ok (.newarray .long, 2) := by decide +kernel
theorem d_Mod_init_119 : decode m_Mod_init.2.1 119 = .ok (.putfield 54, 3) := by decide +kernel
theorem d_Mod_init_122 : decode m_Mod_init.2.1 122 = .ok (.aload_n 0, 1) := by decide +kernel
theorem d_Mod_init_123 : decode m_Mod_init.2.1 123 = .ok (.sipush 256, 3) := by decide +kernel
theorem d_Mod_init_126 : decode m_Mod_init.2.1 126 = .ok (.newarray .boolean, 2) := by decide +kernel
theorem d_Mod_init_128 : decode m_Mod_init.2.1 128 = .ok (.putfield 57, 3) := by decide +kernel
theorem d_Mod_init_131 : decode m_Mod_init.2.1 131 = .ok (.aload_n 0, 1) := by decide +kernel
theorem d_Mod_init_132 : decode m_Mod_init.2.1 132 = .ok (.iconst (-1), 1) := by decide +kernel
theorem d_Mod_init_133 : decode m_Mod_init.2.1 133 = .ok (.putfield 60, 3) := by decide +kernel
theorem d_Mod_init_136 : decode m_Mod_init.2.1 136 = .ok (.aload_n 0, 1) := by decide +kernel
theorem d_Mod_init_137 : decode m_Mod_init.2.1 137 = .ok (.iconst (-1), 1) := by decide +kernel
theorem d_Mod_init_138 : decode m_Mod_init.2.1 138 = .ok (.putfield 64, 3) := by decide +kernel
theorem d_Mod_init_141 : decode m_Mod_init.2.1 141 = .ok (.aload_n 0, 1) := by decide +kernel
theorem d_Mod_init_142 : decode m_Mod_init.2.1 142 = .ok (.bipush 8, 2) := by decide +kernel
theorem d_Mod_init_144 : decode m_Mod_init.2.1 144 = .ok (.newarray .int, 2) := by decide +kernel
theorem d_Mod_init_146 : decode m_Mod_init.2.1 146 = .ok (.putfield 67, 3) := by decide +kernel
theorem d_Mod_init_149 : decode m_Mod_init.2.1 149 = .ok (.aload_n 0, 1) := by decide +kernel
theorem d_Mod_init_150 : decode m_Mod_init.2.1 150 = .ok (.bipush 16, 2) := by decide +kernel
theorem d_Mod_init_152 : decode m_Mod_init.2.1 152 = .ok (.newarray .int, 2) := by decide +kernel
theorem d_Mod_init_154 : decode m_Mod_init.2.1 154 = .ok (.putfield 70, 3) := by decide +kernel
theorem d_Mod_init_157 : decode m_Mod_init.2.1 157 = .ok (.return_, 1) := by decide +kernel
theorem d_Mod_thrown_0 : decode m_Mod_thrown.2.1 0 = .ok (.aload_n 0, 1) := by decide +kernel
theorem d_Mod_thrown_1 : decode m_Mod_thrown.2.1 1 = .ok (.getfield 73, 3) := by decide +kernel
theorem d_Mod_thrown_4 : decode m_Mod_thrown.2.1 4 = .ok (.ireturn, 1) := by decide +kernel
theorem d_Mod_table_0 : decode m_Mod_table.2.1 0 = .ok (.aload_n 0, 1) := by decide +kernel
theorem d_Mod_table_1 : decode m_Mod_table.2.1 1 = .ok (.iload_n 1, 1) := by decide +kernel
theorem d_Mod_table_2 : decode m_Mod_table.2.1 2 = .ok (.iconst 1, 1) := by decide +kernel
theorem d_Mod_table_3 : decode m_Mod_table.2.1 3 = .ok (.if_icmp .lt 8, 3) := by decide +kernel
theorem d_Mod_table_6 : decode m_Mod_table.2.1 6 = .ok (.iload_n 1, 1) := by decide +kernel
theorem d_Mod_table_7 : decode m_Mod_table.2.1 7 = .ok (.iconst 4, 1) := by decide +kernel
theorem d_Mod_table_8 : decode m_Mod_table.2.1 8 = .ok (.if_icmp .le 7, 3) := by decide +kernel
theorem d_Mod_table_11 : decode m_Mod_table.2.1 11 = .ok (.iconst 1, 1) := by decide +kernel
theorem d_Mod_table_12 : decode m_Mod_table.2.1 12 = .ok (.goto 16, 3) := by decide +kernel
theorem d_Mod_table_15 : decode m_Mod_table.2.1 15 = .ok (.aload_n 0, 1) := by decide +kernel
theorem d_Mod_table_16 : decode m_Mod_table.2.1 16 = .ok (.getfield 76, 3) := by decide +kernel
theorem d_Mod_table_19 : decode m_Mod_table.2.1 19 = .ok (.iconst 3, 1) := by decide +kernel
theorem d_Mod_table_20 : decode m_Mod_table.2.1 20 = .ok (.if_icmp .ne 7, 3) := by decide +kernel
theorem d_Mod_table_23 : decode m_Mod_table.2.1 23 = .ok (.iconst 2, 1) := by decide +kernel
theorem d_Mod_table_24 : decode m_Mod_table.2.1 24 = .ok (.goto 4, 3) := by decide +kernel
theorem d_Mod_table_27 : decode m_Mod_table.2.1 27 = .ok (.iconst 0, 1) := by decide +kernel
theorem d_Mod_table_28 : decode m_Mod_table.2.1 28 = .ok (.putfield 73, 3) := by decide +kernel
theorem d_Mod_table_31 : decode m_Mod_table.2.1 31 = .ok (.aload_n 0, 1) := by decide +kernel
theorem d_Mod_table_32 : decode m_Mod_table.2.1 32 = .ok (.getfield 73, 3) := by decide +kernel
theorem d_Mod_table_35 : decode m_Mod_table.2.1 35 = .ok (.ifCond .le 5, 3) := by decide +kernel
theorem d_Mod_table_38 : decode m_Mod_table.2.1 38 = .ok (.iconst 0, 1) := by decide +kernel
theorem d_Mod_table_39 : decode m_Mod_table.2.1 39 = .ok (.ireturn, 1) := by decide +kernel
theorem d_Mod_table_40 : decode m_Mod_table.2.1 40 = .ok (.aload_n 0, 1) := by decide +kernel
theorem d_Mod_table_41 : decode m_Mod_table.2.1 41 = .ok (.getfield 7, 3) := by decide +kernel
theorem d_Mod_table_44 : decode m_Mod_table.2.1 44 = .ok (.aload_n 0, 1) := by decide +kernel
theorem d_Mod_table_45 : decode m_Mod_table.2.1 45 = .ok (.getfield 76, 3) := by decide +kernel
theorem d_Mod_table_48 : decode m_Mod_table.2.1 48 = .ok (.iload_n 1, 1) := by decide +kernel
theorem d_Mod_table_49 : decode m_Mod_table.2.1 49 = .ok (.iastore, 1) := by decide +kernel
theorem d_Mod_table_50 : decode m_Mod_table.2.1 50 = .ok (.aload_n 0, 1) := by decide +kernel
theorem d_Mod_table_51 : decode m_Mod_table.2.1 51 = .ok (.dup, 1) := by decide +kernel
theorem d_Mod_table_52 : decode m_Mod_table.2.1 52 = .ok (.getfield 76, 3) := by decide +kernel
theorem d_Mod_table_55 : decode m_Mod_table.2.1 55 = .ok (.iconst 1, 1) := by decide +kernel
theorem d_Mod_table_56 : decode m_Mod_table.2.1 56 = .ok (.iadd, 1) := by decide +kernel
theorem d_Mod_table_57 : decode m_Mod_table.2.1 57 = .ok (.putfield 76, 3) := by decide +kernel
theorem d_Mod_table_60 : decode m_Mod_table.2.1 60 = .ok (.aload_n 0, 1) := by decide +kernel
theorem d_Mod_table_61 : decode m_Mod_table.2.1 61 = .ok (.getfield 76, 3) := by decide +kernel
theorem d_Mod_table_64 : decode m_Mod_table.2.1 64 = .ok (.iconst 1, 1) := by decide +kernel
theorem d_Mod_table_65 : decode m_Mod_table.2.1 65 = .ok (.isub, 1) := by decide +kernel
theorem d_Mod_table_66 : decode m_Mod_table.2.1 66 = .ok (.ireturn, 1) := by decide +kernel
theorem d_Mod_set_0 : decode m_Mod_set.2.1 0 = .ok (.aload_n 0, 1) := by decide +kernel
theorem d_Mod_set_1 : decode m_Mod_set.2.1 1 = .ok (.iconst 0, 1) := by decide +kernel
theorem d_Mod_set_2 : decode m_Mod_set.2.1 2 = .ok (.putfield 73, 3) := by decide +kernel
theorem d_Mod_set_5 : decode m_Mod_set.2.1 5 = .ok (.iload_n 1, 1) := by decide +kernel
theorem d_Mod_set_6 : decode m_Mod_set.2.1 6 = .ok (.ifCond .lt 8, 3) := by decide +kernel
theorem d_Mod_set_9 : decode m_Mod_set.2.1 9 = .ok (.iload_n 1, 1) := by decide +kernel
theorem d_Mod_set_10 : decode m_Mod_set.2.1 10 = .ok (.iconst 3, 1) := by decide +kernel
theorem d_Mod_set_11 : decode m_Mod_set.2.1 11 = .ok (.if_icmp .le 5, 3) := by decide +kernel
theorem d_Mod_set_14 : decode m_Mod_set.2.1 14 = .ok (.iconst 0, 1) := by decide +kernel
theorem d_Mod_set_15 : decode m_Mod_set.2.1 15 = .ok (.ireturn, 1) := by decide +kernel
theorem d_Mod_set_16 : decode m_Mod_set.2.1 16 = .ok (.aload_n 0, 1) := by decide +kernel
theorem d_Mod_set_17 : decode m_Mod_set.2.1 17 = .ok (.getfield 30, 3) := by decide +kernel
theorem d_Mod_set_20 : decode m_Mod_set.2.1 20 = .ok (.iload_n 1, 1) := by decide +kernel
theorem d_Mod_set_21 : decode m_Mod_set.2.1 21 = .ok (.iload_n 2, 1) := by decide +kernel
theorem d_Mod_set_22 : decode m_Mod_set.2.1 22 = .ok (.bastore, 1) := by decide +kernel
theorem d_Mod_set_23 : decode m_Mod_set.2.1 23 = .ok (.aload_n 0, 1) := by decide +kernel
theorem d_Mod_set_24 : decode m_Mod_set.2.1 24 = .ok (.getfield 27, 3) := by decide +kernel
theorem d_Mod_set_27 : decode m_Mod_set.2.1 27 = .ok (.iload_n 1, 1) := by decide +kernel
theorem d_Mod_set_28 : decode m_Mod_set.2.1 28 = .ok (.iload_n 2, 1) := by decide +kernel
theorem d_Mod_set_29 : decode m_Mod_set.2.1 29 = .ok (.ifCond .eq 7, 3) := by decide +kernel
theorem d_Mod_set_32 : decode m_Mod_set.2.1 32 = .ok (.lload_n 3, 1) := by decide +kernel
theorem d_Mod_set_33 : decode m_Mod_set.2.1 33 = .ok (.goto 4, 3) := by decide +kernel
theorem d_Mod_set_36 : decode m_Mod_set.2.1 36 = .ok (.lconst 0, 1) := by decide +kernel
theorem d_Mod_set_37 : decode m_Mod_set.2.1 37 = .ok (.lastore, 1) := by decide +kernel
theorem d_Mod_set_38 : decode m_Mod_set.2.1 38 = .ok (.iconst 1, 1) := by decide +kernel
theorem d_Mod_set_39 : decode m_Mod_set.2.1 39 = .ok (.ireturn, 1) := by decide +kernel
theorem d_Mod_insert_0 : decode m_Mod_insert.2.1 0 = .ok (.aload_n 0, 1) := by decide +kernel
theorem d_Mod_insert_1 : decode m_Mod_insert.2.1 1 = .ok (.aload_n 0, 1) := by decide +kernel
theorem d_Mod_insert_2 : decode m_Mod_insert.2.1 2 = .ok (.iload_n 1, 1) := by decide +kernel
theorem d_Mod_insert_3 : decode m_Mod_insert.2.1 3 = .ok (.invokevirtual 82, 3) := by decide +kernel
theorem d_Mod_insert_6 : decode m_Mod_insert.2.1 6 = .ok (.ifCond .ne 7, 3) := by decide +kernel
theorem d_Mod_insert_9 : decode m_Mod_insert.2.1 9 = .ok (.iconst 1, 1) := by decide +kernel
theorem d_Mod_insert_10 : decode m_Mod_insert.2.1 10 = .ok (.goto 17, 3) := by decide +kernel
theorem d_Mod_insert_13 : decode m_Mod_insert.2.1 13 = .ok (.aload_n 0, 1) := by decide +kernel
theorem d_Mod_insert_14 : decode m_Mod_insert.2.1 14 = .ok (.getfield 79, 3) := by decide +kernel
theorem d_Mod_insert_17 : decode m_Mod_insert.2.1 17 = .ok (.bipush 90, 2) := by decide +kernel
theorem d_Mod_insert_19 : decode m_Mod_insert.2.1 19 = .ok (.if_icmp .ne 7, 3) := by decide +kernel
theorem d_Mod_insert_22 : decode m_Mod_insert.2.1 22 = .ok (.iconst 2, 1) := by decide +kernel
theorem d_Mod_insert_23 : decode m_Mod_insert.2.1 23 = .ok (.goto 4, 3) := by decide +kernel
theorem d_Mod_insert_26 : decode m_Mod_insert.2.1 26 = .ok (.iconst 0, 1) := by decide +kernel
theorem d_Mod_insert_27 : decode m_Mod_insert.2.1 27 = .ok (.putfield 73, 3) := by decide +kernel
theorem d_Mod_insert_30 : decode m_Mod_insert.2.1 30 = .ok (.aload_n 0, 1) := by decide +kernel
theorem d_Mod_insert_31 : decode m_Mod_insert.2.1 31 = .ok (.getfield 73, 3) := by decide +kernel
theorem d_Mod_insert_34 : decode m_Mod_insert.2.1 34 = .ok (.ifCond .gt 12, 3) := by decide +kernel
theorem d_Mod_insert_37 : decode m_Mod_insert.2.1 37 = .ok (.aload_n 0, 1) := by decide +kernel
theorem d_Mod_insert_38 : decode m_Mod_insert.2.1 38 = .ok (.iload_n 1, 1) := by decide +kernel
theorem d_Mod_insert_39 : decode m_Mod_insert.2.1 39 = .ok (.lload_n 2, 1) := by decide +kernel
theorem d_Mod_insert_40 : decode m_Mod_insert.2.1 40 = .ok (.invokevirtual 86, 3) := by decide +kernel
theorem d_Mod_insert_43 : decode m_Mod_insert.2.1 43 = .ok (.ifCond .lt 5, 3) := by decide +kernel
theorem d_Mod_insert_46 : decode m_Mod_insert.2.1 46 = .ok (.iconst 0, 1) := by decide +kernel
theorem d_Mod_insert_47 : decode m_Mod_insert.2.1 47 = .ok (.ireturn, 1) := by decide +kernel
theorem d_Mod_insert_48 : decode m_Mod_insert.2.1 48 = .ok (.iconst 0, 1) := by decide +kernel
theorem d_Mod_insert_49 : decode m_Mod_insert.2.1 49 = .ok (.istore 4, 2) := by decide +kernel
theorem d_Mod_insert_51 : decode m_Mod_insert.2.1 51 = .ok (.iload 4, 2) := by decide +kernel
theorem d_Mod_insert_53 : decode m_Mod_insert.2.1 53 = .ok (.aload_n 0, 1) := by decide +kernel
theorem d_Mod_insert_54 : decode m_Mod_insert.2.1 54 = .ok (.getfield 7, 3) := by decide +kernel
theorem d_Mod_insert_57 : decode m_Mod_insert.2.1 57 = .ok (.iload_n 1, 1) := by decide +kernel
theorem d_Mod_insert_58 : decode m_Mod_insert.2.1 58 = .ok (.iaload, 1) := by decide +kernel
theorem d_Mod_insert_59 : decode m_Mod_insert.2.1 59 = .ok (.if_icmp .ge 31, 3) := by decide +kernel
theorem d_Mod_insert_62 : decode m_Mod_insert.2.1 62 = .ok (.aload_n 0, 1) := by decide +kernel
theorem d_Mod_insert_63 : decode m_Mod_insert.2.1 63 = .ok (.iload_n 1, 1) := by decide +kernel
theorem d_Mod_insert_64 : decode m_Mod_insert.2.1 64 = .ok (.lload_n 2, 1) := by decide +kernel
theorem d_Mod_insert_65 : decode m_Mod_insert.2.1 65 = .ok (.iload 4, 2) := by decide +kernel
theorem d_Mod_insert_67 : decode m_Mod_insert.2.1 67 = .ok (.aload_n 0, 1) := by decide +kernel
theorem d_Mod_insert_68 : decode m_Mod_insert.2.1 68 = .ok (.getfield 30, 3) := by decide +kernel
theorem d_Mod_insert_71 : decode m_Mod_insert.2.1 71 = .ok (.iload 4, 2) := by decide +kernel
theorem d_Mod_insert_73 : decode m_Mod_insert.2.1 73 = .ok (.baload, 1) := by decide +kernel
theorem d_Mod_insert_74 : decode m_Mod_insert.2.1 74 = .ok (.aload_n 0, 1) := by decide +kernel
theorem d_Mod_insert_75 : decode m_Mod_insert.2.1 75 = .ok (.getfield 27, 3) := by decide +kernel
theorem d_Mod_insert_78 : decode m_Mod_insert.2.1 78 = .ok (.iload 4, 2) := by decide +kernel
theorem d_Mod_insert_80 : decode m_Mod_insert.2.1 80 = .ok (.laload, 1) := by decide +kernel
theorem d_Mod_insert_81 : decode m_Mod_insert.2.1 81 = .ok (.invokevirtual 90, 3) := by decide +kernel
theorem d_Mod_insert_84 : decode m_Mod_insert.2.1 84 = .ok (.iinc 4 1, 3) := by decide +kernel
theorem d_Mod_insert_87 : decode m_Mod_insert.2.1 87 = .ok (.goto (-36), 3) := by decide +kernel
theorem d_Mod_insert_90 : decode m_Mod_insert.2.1 90 = .ok (.aload_n 0, 1) := by decide +kernel
theorem d_Mod_insert_91 : decode m_Mod_insert.2.1 91 = .ok (.dup, 1) := by decide +kernel
theorem d_Mod_insert_92 : decode m_Mod_insert.2.1 92 = .ok (.getfield 79, 3) := by decide +kernel
theorem d_Mod_insert_95 : decode m_Mod_insert.2.1 95 = .ok (.iconst 1, 1) := by decide +kernel
theorem d_Mod_insert_96 : decode m_Mod_insert.2.1 96 = .ok (.iadd, 1) := by decide +kernel
theorem d_Mod_insert_97 : decode m_Mod_insert.2.1 97 = .ok (.putfield 79, 3) := by decide +kernel
theorem d_Mod_insert_100 : decode m_Mod_insert.2.1 100 = .ok (.iconst 1, 1) := by decide +kernel
theorem d_Mod_insert_101 : decode m_Mod_insert.2.1 101 = .ok (.ireturn, 1) := by decide +kernel
theorem d_Mod_isTable_0 : decode m_Mod_isTable.2.1 0 = .ok (.iload_n 1, 1) := by decide +kernel
theorem d_Mod_isTable_1 : decode m_Mod_isTable.2.1 1 = .ok (.ifCond .lt 15, 3) := by decide +kernel
theorem d_Mod_isTable_4 : decode m_Mod_isTable.2.1 4 = .ok (.iload_n 1, 1) := by decide +kernel
theorem d_Mod_isTable_5 : decode m_Mod_isTable.2.1 5 = .ok (.aload_n 0, 1) := by decide +kernel
theorem d_Mod_isTable_6 : decode m_Mod_isTable.2.1 6 = .ok (.getfield 76, 3) := by decide +kernel
theorem d_Mod_isTable_9 : decode m_Mod_isTable.2.1 9 = .ok (.if_icmp .ge 7, 3) := by decide +kernel
theorem d_Mod_isTable_12 : decode m_Mod_isTable.2.1 12 = .ok (.iconst 1, 1) := by decide +kernel
theorem d_Mod_isTable_13 : decode m_Mod_isTable.2.1 13 = .ok (.goto 4, 3) := by decide +kernel
theorem d_Mod_isTable_16 : decode m_Mod_isTable.2.1 16 = .ok (.iconst 0, 1) := by decide +kernel
theorem d_Mod_isTable_17 : decode m_Mod_isTable.2.1 17 = .ok (.ireturn, 1) := by decide +kernel
theorem d_Mod_rowOf_0 : decode m_Mod_rowOf.2.1 0 = .ok (.iconst (-1), 1) := by decide +kernel
theorem d_Mod_rowOf_1 : decode m_Mod_rowOf.2.1 1 = .ok (.istore 4, 2) := by decide +kernel
theorem d_Mod_rowOf_3 : decode m_Mod_rowOf.2.1 3 = .ok (.iconst 0, 1) := by decide +kernel
theorem d_Mod_rowOf_4 : decode m_Mod_rowOf.2.1 4 = .ok (.istore 5, 2) := by decide +kernel
theorem d_Mod_rowOf_6 : decode m_Mod_rowOf.2.1 6 = .ok (.iload 5, 2) := by decide +kernel
theorem d_Mod_rowOf_8 : decode m_Mod_rowOf.2.1 8 = .ok (.aload_n 0, 1) := by decide +kernel
theorem d_Mod_rowOf_9 : decode m_Mod_rowOf.2.1 9 = .ok (.getfield 79, 3) := by decide +kernel
theorem d_Mod_rowOf_12 : decode m_Mod_rowOf.2.1 12 = .ok (.if_icmp .ge 41, 3) := by decide +kernel
theorem d_Mod_rowOf_15 : decode m_Mod_rowOf.2.1 15 = .ok (.aload_n 0, 1) := by decide +kernel
theorem d_Mod_rowOf_16 : decode m_Mod_rowOf.2.1 16 = .ok (.getfield 13, 3) := by decide +kernel
theorem d_Mod_rowOf_19 : decode m_Mod_rowOf.2.1 19 = .ok (.iload 5, 2) := by decide +kernel
theorem d_Mod_rowOf_21 : decode m_Mod_rowOf.2.1 21 = .ok (.iaload, 1) := by decide +kernel
theorem d_Mod_rowOf_22 : decode m_Mod_rowOf.2.1 22 = .ok (.iload_n 1, 1) := by decide +kernel
theorem d_Mod_rowOf_23 : decode m_Mod_rowOf.2.1 23 = .ok (.if_icmp .ne 20, 3) := by decide +kernel
theorem d_Mod_rowOf_26 : decode m_Mod_rowOf.2.1 26 = .ok (.aload_n 0, 1) := by decide +kernel
theorem d_Mod_rowOf_27 : decode m_Mod_rowOf.2.1 27 = .ok (.getfield 16, 3) := by decide +kernel
theorem d_Mod_rowOf_30 : decode m_Mod_rowOf.2.1 30 = .ok (.iload 5, 2) := by decide +kernel
theorem d_Mod_rowOf_32 : decode m_Mod_rowOf.2.1 32 = .ok (.laload, 1) := by decide +kernel
theorem d_Mod_rowOf_33 : decode m_Mod_rowOf.2.1 33 = .ok (.lload_n 2, 1) := by decide +kernel
theorem d_Mod_rowOf_34 : decode m_Mod_rowOf.2.1 34 = .ok (.lcmp, 1) := by decide +kernel
theorem d_Mod_rowOf_35 : decode m_Mod_rowOf.2.1 35 = .ok (.ifCond .ne 8, 3) := by decide +kernel
theorem d_Mod_rowOf_38 : decode m_Mod_rowOf.2.1 38 = .ok (.iload 5, 2) := by decide +kernel
theorem d_Mod_rowOf_40 : decode m_Mod_rowOf.2.1 40 = .ok (.goto 5, 3) := by decide +kernel
theorem d_Mod_rowOf_43 : decode m_Mod_rowOf.2.1 43 = .ok (.iload 4, 2) := by decide +kernel
theorem d_Mod_rowOf_45 : decode m_Mod_rowOf.2.1 45 = .ok (.istore 4, 2) := by decide +kernel
theorem d_Mod_rowOf_47 : decode m_Mod_rowOf.2.1 47 = .ok (.iinc 5 1, 3) := by decide +kernel
theorem d_Mod_rowOf_50 : decode m_Mod_rowOf.2.1 50 = .ok (.goto (-44), 3) := by decide +kernel
theorem d_Mod_rowOf_53 : decode m_Mod_rowOf.2.1 53 = .ok (.iload 4, 2) := by decide +kernel
theorem d_Mod_rowOf_55 : decode m_Mod_rowOf.2.1 55 = .ok (.ireturn, 1) := by decide +kernel
theorem d_Mod_lay_0 : decode m_Mod_lay.2.1 0 = .ok (.aload_n 0, 1) := by decide +kernel
theorem d_Mod_lay_1 : decode m_Mod_lay.2.1 1 = .ok (.getfield 13, 3) := by decide +kernel
theorem d_Mod_lay_4 : decode m_Mod_lay.2.1 4 = .ok (.aload_n 0, 1) := by decide +kernel
theorem d_Mod_lay_5 : decode m_Mod_lay.2.1 5 = .ok (.getfield 79, 3) := by decide +kernel
theorem d_Mod_lay_8 : decode m_Mod_lay.2.1 8 = .ok (.iload_n 1, 1) := by decide +kernel
theorem d_Mod_lay_9 : decode m_Mod_lay.2.1 9 = .ok (.iastore, 1) := by decide +kernel
theorem d_Mod_lay_10 : decode m_Mod_lay.2.1 10 = .ok (.aload_n 0, 1) := by decide +kernel
theorem d_Mod_lay_11 : decode m_Mod_lay.2.1 11 = .ok (.getfield 16, 3) := by decide +kernel
theorem d_Mod_lay_14 : decode m_Mod_lay.2.1 14 = .ok (.aload_n 0, 1) := by decide +kernel
theorem d_Mod_lay_15 : decode m_Mod_lay.2.1 15 = .ok (.getfield 79, 3) := by decide +kernel
theorem d_Mod_lay_18 : decode m_Mod_lay.2.1 18 = .ok (.lload_n 2, 1) := by decide +kernel
theorem d_Mod_lay_19 : decode m_Mod_lay.2.1 19 = .ok (.lastore, 1) := by decide +kernel
theorem d_Mod_lay_20 : decode m_Mod_lay.2.1 20 = .ok (.aload_n 0, 1) := by decide +kernel
theorem d_Mod_lay_21 : decode m_Mod_lay.2.1 21 = .ok (.getfield 23, 3) := by decide +kernel
theorem d_Mod_lay_24 : decode m_Mod_lay.2.1 24 = .ok (.iconst 4, 1) := by decide +kernel
theorem d_Mod_lay_25 : decode m_Mod_lay.2.1 25 = .ok (.aload_n 0, 1) := by decide +kernel
theorem d_Mod_lay_26 : decode m_Mod_lay.2.1 26 = .ok (.getfield 79, 3) := by decide +kernel
theorem d_Mod_lay_29 : decode m_Mod_lay.2.1 29 = .ok (.imul, 1) := by decide +kernel
theorem d_Mod_lay_30 : decode m_Mod_lay.2.1 30 = .ok (.iload 4, 2) := by decide +kernel
theorem d_Mod_lay_32 : decode m_Mod_lay.2.1 32 = .ok (.iadd, 1) := by decide +kernel
theorem d_Mod_lay_33 : decode m_Mod_lay.2.1 33 = .ok (.iload 5, 2) := by decide +kernel
theorem d_Mod_lay_35 : decode m_Mod_lay.2.1 35 = .ok (.bastore, 1) := by decide +kernel
theorem d_Mod_lay_36 : decode m_Mod_lay.2.1 36 = .ok (.aload_n 0, 1) := by decide +kernel
theorem d_Mod_lay_37 : decode m_Mod_lay.2.1 37 = .ok (.getfield 20, 3) := by decide +kernel
theorem d_Mod_lay_40 : decode m_Mod_lay.2.1 40 = .ok (.iconst 4, 1) := by decide +kernel
theorem d_Mod_lay_41 : decode m_Mod_lay.2.1 41 = .ok (.aload_n 0, 1) := by decide +kernel
theorem d_Mod_lay_42 : decode m_Mod_lay.2.1 42 = .ok (.getfield 79, 3) := by decide +kernel
theorem d_Mod_lay_45 : decode m_Mod_lay.2.1 45 = .ok (.imul, 1) := by decide +kernel
theorem d_Mod_lay_46 : decode m_Mod_lay.2.1 46 = .ok (.iload 4, 2) := by decide +kernel
theorem d_Mod_lay_48 : decode m_Mod_lay.2.1 48 = .ok (.iadd, 1) := by decide +kernel
theorem d_Mod_lay_49 : decode m_Mod_lay.2.1 49 = .ok (.iload 5, 2) := by decide +kernel
theorem d_Mod_lay_51 : decode m_Mod_lay.2.1 51 = .ok (.ifCond .eq 8, 3) := by decide +kernel
theorem d_Mod_lay_54 : decode m_Mod_lay.2.1 54 = .ok (.lload 6, 2) := by decide +kernel
theorem d_Mod_lay_56 : decode m_Mod_lay.2.1 56 = .ok (.goto 4, 3) := by decide +kernel
theorem d_Mod_lay_59 : decode m_Mod_lay.2.1 59 = .ok (.lconst 0, 1) := by decide +kernel
theorem d_Mod_lay_60 : decode m_Mod_lay.2.1 60 = .ok (.lastore, 1) := by decide +kernel
theorem d_Mod_lay_61 : decode m_Mod_lay.2.1 61 = .ok (.return_, 1) := by decide +kernel
theorem d_Mod_delete_0 : decode m_Mod_delete.2.1 0 = .ok (.aload_n 0, 1) := by decide +kernel
theorem d_Mod_delete_1 : decode m_Mod_delete.2.1 1 = .ok (.aload_n 0, 1) := by decide +kernel
theorem d_Mod_delete_2 : decode m_Mod_delete.2.1 2 = .ok (.iload_n 1, 1) := by decide +kernel
theorem d_Mod_delete_3 : decode m_Mod_delete.2.1 3 = .ok (.invokevirtual 82, 3) := by decide +kernel
theorem d_Mod_delete_6 : decode m_Mod_delete.2.1 6 = .ok (.ifCond .eq 7, 3) := by decide +kernel
theorem d_Mod_delete_9 : decode m_Mod_delete.2.1 9 = .ok (.iconst 0, 1) := by decide +kernel
theorem d_Mod_delete_10 : decode m_Mod_delete.2.1 10 = .ok (.goto 4, 3) := by decide +kernel
theorem d_Mod_delete_13 : decode m_Mod_delete.2.1 13 = .ok (.iconst 1, 1) := by decide +kernel
theorem d_Mod_delete_14 : decode m_Mod_delete.2.1 14 = .ok (.putfield 73, 3) := by decide +kernel
theorem d_Mod_delete_17 : decode m_Mod_delete.2.1 17 = .ok (.aload_n 0, 1) := by decide +kernel
theorem d_Mod_delete_18 : decode m_Mod_delete.2.1 18 = .ok (.getfield 73, 3) := by decide +kernel
theorem d_Mod_delete_21 : decode m_Mod_delete.2.1 21 = .ok (.ifCond .le 5, 3) := by decide +kernel
theorem d_Mod_delete_24 : decode m_Mod_delete.2.1 24 = .ok (.iconst 0, 1) := by decide +kernel
theorem d_Mod_delete_25 : decode m_Mod_delete.2.1 25 = .ok (.ireturn, 1) := by decide +kernel
theorem d_Mod_delete_26 : decode m_Mod_delete.2.1 26 = .ok (.aload_n 0, 1) := by decide +kernel
theorem d_Mod_delete_27 : decode m_Mod_delete.2.1 27 = .ok (.iload_n 1, 1) := by decide +kernel
theorem d_Mod_delete_28 : decode m_Mod_delete.2.1 28 = .ok (.lload_n 2, 1) := by decide +kernel
theorem d_Mod_delete_29 : decode m_Mod_delete.2.1 29 = .ok (.invokevirtual 86, 3) := by decide +kernel
theorem d_Mod_delete_32 : decode m_Mod_delete.2.1 32 = .ok (.istore 4, 2) := by decide +kernel
theorem d_Mod_delete_34 : decode m_Mod_delete.2.1 34 = .ok (.iload 4, 2) := by decide +kernel
theorem d_Mod_delete_36 : decode m_Mod_delete.2.1 36 = .ok (.ifCond .lt 9, 3) := by decide +kernel
theorem d_Mod_delete_39 : decode m_Mod_delete.2.1 39 = .ok (.aload_n 0, 1) := by decide +kernel
theorem d_Mod_delete_40 : decode m_Mod_delete.2.1 40 = .ok (.iload 4, 2) := by decide +kernel
theorem d_Mod_delete_42 : decode m_Mod_delete.2.1 42 = .ok (.invokevirtual 94, 3) := by decide +kernel
theorem d_Mod_delete_45 : decode m_Mod_delete.2.1 45 = .ok (.iload 4, 2) := by decide +kernel
theorem d_Mod_delete_47 : decode m_Mod_delete.2.1 47 = .ok (.ifCond .lt 7, 3) := by decide +kernel
theorem d_Mod_delete_50 : decode m_Mod_delete.2.1 50 = .ok (.iconst 1, 1) := by decide +kernel
theorem d_Mod_delete_51 : decode m_Mod_delete.2.1 51 = .ok (.goto 4, 3) := by decide +kernel
theorem d_Mod_delete_54 : decode m_Mod_delete.2.1 54 = .ok (.iconst 0, 1) := by decide +kernel
theorem d_Mod_delete_55 : decode m_Mod_delete.2.1 55 = .ok (.ireturn, 1) := by decide +kernel
theorem d_Mod_take_0 : decode m_Mod_take.2.1 0 = .ok (.aload_n 0, 1) := by decide +kernel
theorem d_Mod_take_1 : decode m_Mod_take.2.1 1 = .ok (.dup, 1) := by decide +kernel
theorem d_Mod_take_2 : decode m_Mod_take.2.1 2 = .ok (.getfield 79, 3) := by decide +kernel
theorem d_Mod_take_5 : decode m_Mod_take.2.1 5 = .ok (.iconst 1, 1) := by decide +kernel
theorem d_Mod_take_6 : decode m_Mod_take.2.1 6 = .ok (.isub, 1) := by decide +kernel
theorem d_Mod_take_7 : decode m_Mod_take.2.1 7 = .ok (.putfield 79, 3) := by decide +kernel
theorem d_Mod_take_10 : decode m_Mod_take.2.1 10 = .ok (.aload_n 0, 1) := by decide +kernel
theorem d_Mod_take_11 : decode m_Mod_take.2.1 11 = .ok (.getfield 13, 3) := by decide +kernel
theorem d_Mod_take_14 : decode m_Mod_take.2.1 14 = .ok (.iload_n 1, 1) := by decide +kernel
theorem d_Mod_take_15 : decode m_Mod_take.2.1 15 = .ok (.aload_n 0, 1) := by decide +kernel
theorem d_Mod_take_16 : decode m_Mod_take.2.1 16 = .ok (.getfield 13, 3) := by decide +kernel
theorem d_Mod_take_19 : decode m_Mod_take.2.1 19 = .ok (.aload_n 0, 1) := by decide +kernel
theorem d_Mod_take_20 : decode m_Mod_take.2.1 20 = .ok (.getfield 79, 3) := by decide +kernel
theorem d_Mod_take_23 : decode m_Mod_take.2.1 23 = .ok (.iaload, 1) := by decide +kernel
theorem d_Mod_take_24 : decode m_Mod_take.2.1 24 = .ok (.iastore, 1) := by decide +kernel
theorem d_Mod_take_25 : decode m_Mod_take.2.1 25 = .ok (.aload_n 0, 1) := by decide +kernel
theorem d_Mod_take_26 : decode m_Mod_take.2.1 26 = .ok (.getfield 16, 3) := by decide +kernel
theorem d_Mod_take_29 : decode m_Mod_take.2.1 29 = .ok (.iload_n 1, 1) := by decide +kernel
theorem d_Mod_take_30 : decode m_Mod_take.2.1 30 = .ok (.aload_n 0, 1) := by decide +kernel
theorem d_Mod_take_31 : decode m_Mod_take.2.1 31 = .ok (.getfield 16, 3) := by decide +kernel
theorem d_Mod_take_34 : decode m_Mod_take.2.1 34 = .ok (.aload_n 0, 1) := by decide +kernel
theorem d_Mod_take_35 : decode m_Mod_take.2.1 35 = .ok (.getfield 79, 3) := by decide +kernel
theorem d_Mod_take_38 : decode m_Mod_take.2.1 38 = .ok (.laload, 1) := by decide +kernel
theorem d_Mod_take_39 : decode m_Mod_take.2.1 39 = .ok (.lastore, 1) := by decide +kernel
theorem d_Mod_take_40 : decode m_Mod_take.2.1 40 = .ok (.iconst 0, 1) := by decide +kernel
theorem d_Mod_take_41 : decode m_Mod_take.2.1 41 = .ok (.istore_n 2, 1) := by decide +kernel
theorem d_Mod_take_42 : decode m_Mod_take.2.1 42 = .ok (.iload_n 2, 1) := by decide +kernel
theorem d_Mod_take_43 : decode m_Mod_take.2.1 43 = .ok (.iconst 4, 1) := by decide +kernel
theorem d_Mod_take_44 : decode m_Mod_take.2.1 44 = .ok (.if_icmp .ge 55, 3) := by decide +kernel
theorem d_Mod_take_47 : decode m_Mod_take.2.1 47 = .ok (.aload_n 0, 1) := by decide +kernel
theorem d_Mod_take_48 : decode m_Mod_take.2.1 48 = .ok (.getfield 23, 3) := by decide +kernel
theorem d_Mod_take_51 : decode m_Mod_take.2.1 51 = .ok (.iconst 4, 1) := by decide +kernel
theorem d_Mod_take_52 : decode m_Mod_take.2.1 52 = .ok (.iload_n 1, 1) := by decide +kernel
theorem d_Mod_take_53 : decode m_Mod_take.2.1 53 = .ok (.imul, 1) := by decide +kernel
theorem d_Mod_take_54 : decode m_Mod_take.2.1 54 = .ok (.iload_n 2, 1) := by decide +kernel
theorem d_Mod_take_55 : decode m_Mod_take.2.1 55 = .ok (.iadd, 1) := by decide +kernel
theorem d_Mod_take_56 : decode m_Mod_take.2.1 56 = .ok (.aload_n 0, 1) := by decide +kernel
theorem d_Mod_take_57 : decode m_Mod_take.2.1 57 = .ok (.getfield 23, 3) := by decide +kernel
theorem d_Mod_take_60 : decode m_Mod_take.2.1 60 = .ok (.iconst 4, 1) := by decide +kernel
theorem d_Mod_take_61 : decode m_Mod_take.2.1 61 = .ok (.aload_n 0, 1) := by decide +kernel
theorem d_Mod_take_62 : decode m_Mod_take.2.1 62 = .ok (.getfield 79, 3) := by decide +kernel
theorem d_Mod_take_65 : decode m_Mod_take.2.1 65 = .ok (.imul, 1) := by decide +kernel
theorem d_Mod_take_66 : decode m_Mod_take.2.1 66 = .ok (.iload_n 2, 1) := by decide +kernel
theorem d_Mod_take_67 : decode m_Mod_take.2.1 67 = .ok (.iadd, 1) := by decide +kernel
theorem d_Mod_take_68 : decode m_Mod_take.2.1 68 = .ok (.baload, 1) := by decide +kernel
theorem d_Mod_take_69 : decode m_Mod_take.2.1 69 = .ok (.bastore, 1) := by decide +kernel
theorem d_Mod_take_70 : decode m_Mod_take.2.1 70 = .ok (.aload_n 0, 1) := by decide +kernel
theorem d_Mod_take_71 : decode m_Mod_take.2.1 71 = .ok (.getfield 20, 3) := by decide +kernel
theorem d_Mod_take_74 : decode m_Mod_take.2.1 74 = .ok (.iconst 4, 1) := by decide +kernel
theorem d_Mod_take_75 : decode m_Mod_take.2.1 75 = .ok (.iload_n 1, 1) := by decide +kernel
theorem d_Mod_take_76 : decode m_Mod_take.2.1 76 = .ok (.imul, 1) := by decide +kernel
theorem d_Mod_take_77 : decode m_Mod_take.2.1 77 = .ok (.iload_n 2, 1) := by decide +kernel
theorem d_Mod_take_78 : decode m_Mod_take.2.1 78 = .ok (.iadd, 1) := by decide +kernel
theorem d_Mod_take_79 : decode m_Mod_take.2.1 79 = .ok (.aload_n 0, 1) := by decide +kernel
theorem d_Mod_take_80 : decode m_Mod_take.2.1 80 = .ok (.getfield 20, 3) := by decide +kernel
theorem d_Mod_take_83 : decode m_Mod_take.2.1 83 = .ok (.iconst 4, 1) := by decide +kernel
theorem d_Mod_take_84 : decode m_Mod_take.2.1 84 = .ok (.aload_n 0, 1) := by decide +kernel
theorem d_Mod_take_85 : decode m_Mod_take.2.1 85 = .ok (.getfield 79, 3) := by decide +kernel
theorem d_Mod_take_88 : decode m_Mod_take.2.1 88 = .ok (.imul, 1) := by decide +kernel
theorem d_Mod_take_89 : decode m_Mod_take.2.1 89 = .ok (.iload_n 2, 1) := by decide +kernel
theorem d_Mod_take_90 : decode m_Mod_take.2.1 90 = .ok (.iadd, 1) := by decide +kernel
theorem d_Mod_take_91 : decode m_Mod_take.2.1 91 = .ok (.laload, 1) := by decide +kernel
theorem d_Mod_take_92 : decode m_Mod_take.2.1 92 = .ok (.lastore, 1) := by decide +kernel
theorem d_Mod_take_93 : decode m_Mod_take.2.1 93 = .ok (.iinc 2 1, 3) := by decide +kernel
theorem d_Mod_take_96 : decode m_Mod_take.2.1 96 = .ok (.goto (-54), 3) := by decide +kernel
theorem d_Mod_take_99 : decode m_Mod_take.2.1 99 = .ok (.return_, 1) := by decide +kernel
theorem d_Mod_count_0 : decode m_Mod_count.2.1 0 = .ok (.aload_n 0, 1) := by decide +kernel
theorem d_Mod_count_1 : decode m_Mod_count.2.1 1 = .ok (.iconst 0, 1) := by decide +kernel
theorem d_Mod_count_2 : decode m_Mod_count.2.1 2 = .ok (.putfield 73, 3) := by decide +kernel
theorem d_Mod_count_5 : decode m_Mod_count.2.1 5 = .ok (.iconst 0, 1) := by decide +kernel
theorem d_Mod_count_6 : decode m_Mod_count.2.1 6 = .ok (.istore_n 2, 1) := by decide +kernel
theorem d_Mod_count_7 : decode m_Mod_count.2.1 7 = .ok (.iconst 0, 1) := by decide +kernel
theorem d_Mod_count_8 : decode m_Mod_count.2.1 8 = .ok (.istore_n 3, 1) := by decide +kernel
theorem d_Mod_count_9 : decode m_Mod_count.2.1 9 = .ok (.iload_n 3, 1) := by decide +kernel
theorem d_Mod_count_10 : decode m_Mod_count.2.1 10 = .ok (.aload_n 0, 1) := by decide +kernel
theorem d_Mod_count_11 : decode m_Mod_count.2.1 11 = .ok (.getfield 79, 3) := by decide +kernel
theorem d_Mod_count_14 : decode m_Mod_count.2.1 14 = .ok (.if_icmp .ge 27, 3) := by decide +kernel
theorem d_Mod_count_17 : decode m_Mod_count.2.1 17 = .ok (.iload_n 2, 1) := by decide +kernel
theorem d_Mod_count_18 : decode m_Mod_count.2.1 18 = .ok (.aload_n 0, 1) := by decide +kernel
theorem d_Mod_count_19 : decode m_Mod_count.2.1 19 = .ok (.getfield 13, 3) := by decide +kernel
theorem d_Mod_count_22 : decode m_Mod_count.2.1 22 = .ok (.iload_n 3, 1) := by decide +kernel
theorem d_Mod_count_23 : decode m_Mod_count.2.1 23 = .ok (.iaload, 1) := by decide +kernel
theorem d_Mod_count_24 : decode m_Mod_count.2.1 24 = .ok (.iload_n 1, 1) := by decide +kernel
theorem d_Mod_count_25 : decode m_Mod_count.2.1 25 = .ok (.if_icmp .ne 7, 3) := by decide +kernel
theorem d_Mod_count_28 : decode m_Mod_count.2.1 28 = .ok (.iconst 1, 1) := by decide +kernel
theorem d_Mod_count_29 : decode m_Mod_count.2.1 29 = .ok (.goto 4, 3) := by decide +kernel
theorem d_Mod_count_32 : decode m_Mod_count.2.1 32 = .ok (.iconst 0, 1) := by decide +kernel
theorem d_Mod_count_33 : decode m_Mod_count.2.1 33 = .ok (.iadd, 1) := by decide +kernel
theorem d_Mod_count_34 : decode m_Mod_count.2.1 34 = .ok (.istore_n 2, 1) := by decide +kernel
theorem d_Mod_count_35 : decode m_Mod_count.2.1 35 = .ok (.iinc 3 1, 3) := by decide +kernel
theorem d_Mod_count_38 : decode m_Mod_count.2.1 38 = .ok (.goto (-29), 3) := by decide +kernel
theorem d_Mod_count_41 : decode m_Mod_count.2.1 41 = .ok (.aload_n 0, 1) := by decide +kernel
theorem d_Mod_count_42 : decode m_Mod_count.2.1 42 = .ok (.iload_n 1, 1) := by decide +kernel
theorem d_Mod_count_43 : decode m_Mod_count.2.1 43 = .ok (.invokevirtual 82, 3) := by decide +kernel
theorem d_Mod_count_46 : decode m_Mod_count.2.1 46 = .ok (.ifCond .eq 7, 3) := by decide +kernel
theorem d_Mod_count_49 : decode m_Mod_count.2.1 49 = .ok (.iload_n 2, 1) := by decide +kernel
theorem d_Mod_count_50 : decode m_Mod_count.2.1 50 = .ok (.goto 4, 3) := by decide +kernel
theorem d_Mod_count_53 : decode m_Mod_count.2.1 53 = .ok (.iconst (-1), 1) := by decide +kernel
theorem d_Mod_count_54 : decode m_Mod_count.2.1 54 = .ok (.ireturn, 1) := by decide +kernel
theorem d_Mod_next_0 : decode m_Mod_next.2.1 0 = .ok (.aload_n 0, 1) := by decide +kernel
theorem d_Mod_next_1 : decode m_Mod_next.2.1 1 = .ok (.aload_n 0, 1) := by decide +kernel
theorem d_Mod_next_2 : decode m_Mod_next.2.1 2 = .ok (.iload_n 1, 1) := by decide +kernel
theorem d_Mod_next_3 : decode m_Mod_next.2.1 3 = .ok (.invokevirtual 82, 3) := by decide +kernel
theorem d_Mod_next_6 : decode m_Mod_next.2.1 6 = .ok (.ifCond .eq 7, 3) := by decide +kernel
theorem d_Mod_next_9 : decode m_Mod_next.2.1 9 = .ok (.iconst 0, 1) := by decide +kernel
theorem d_Mod_next_10 : decode m_Mod_next.2.1 10 = .ok (.goto 4, 3) := by decide +kernel
theorem d_Mod_next_13 : decode m_Mod_next.2.1 13 = .ok (.iconst 1, 1) := by decide +kernel
theorem d_Mod_next_14 : decode m_Mod_next.2.1 14 = .ok (.putfield 73, 3) := by decide +kernel
theorem d_Mod_next_17 : decode m_Mod_next.2.1 17 = .ok (.aload_n 0, 1) := by decide +kernel
theorem d_Mod_next_18 : decode m_Mod_next.2.1 18 = .ok (.getfield 73, 3) := by decide +kernel
theorem d_Mod_next_21 : decode m_Mod_next.2.1 21 = .ok (.ifCond .le 5, 3) := by decide +kernel
theorem d_Mod_next_24 : decode m_Mod_next.2.1 24 = .ok (.lconst 0, 1) := by decide +kernel
theorem d_Mod_next_25 : decode m_Mod_next.2.1 25 = .ok (.lreturn, 1) := by decide +kernel
theorem d_Mod_next_26 : decode m_Mod_next.2.1 26 = .ok (.aload_n 0, 1) := by decide +kernel
theorem d_Mod_next_27 : decode m_Mod_next.2.1 27 = .ok (.iload_n 1, 1) := by decide +kernel
theorem d_Mod_next_28 : decode m_Mod_next.2.1 28 = .ok (.lload_n 2, 1) := by decide +kernel
theorem d_Mod_next_29 : decode m_Mod_next.2.1 29 = .ok (.iload 4, 2) := by decide +kernel
theorem d_Mod_next_31 : decode m_Mod_next.2.1 31 = .ok (.invokevirtual 98, 3) := by decide +kernel
theorem d_Mod_next_34 : decode m_Mod_next.2.1 34 = .ok (.istore 5, 2) := by decide +kernel
theorem d_Mod_next_36 : decode m_Mod_next.2.1 36 = .ok (.aload_n 0, 1) := by decide +kernel
theorem d_Mod_next_37 : decode m_Mod_next.2.1 37 = .ok (.iload 5, 2) := by decide +kernel
theorem d_Mod_next_39 : decode m_Mod_next.2.1 39 = .ok (.ifCond .ge 7, 3) := by decide +kernel
theorem d_Mod_next_42 : decode m_Mod_next.2.1 42 = .ok (.iconst 2, 1) := by decide +kernel
theorem d_Mod_next_43 : decode m_Mod_next.2.1 43 = .ok (.goto 4, 3) := by decide +kernel
theorem d_Mod_next_46 : decode m_Mod_next.2.1 46 = .ok (.iconst 0, 1) := by decide +kernel
theorem d_Mod_next_47 : decode m_Mod_next.2.1 47 = .ok (.putfield 73, 3) := by decide +kernel
theorem d_Mod_next_50 : decode m_Mod_next.2.1 50 = .ok (.iload 5, 2) := by decide +kernel
theorem d_Mod_next_52 : decode m_Mod_next.2.1 52 = .ok (.ifCond .ge 7, 3) := by decide +kernel
theorem d_Mod_next_55 : decode m_Mod_next.2.1 55 = .ok (.lconst 0, 1) := by decide +kernel
theorem d_Mod_next_56 : decode m_Mod_next.2.1 56 = .ok (.goto 10, 3) := by decide +kernel
theorem d_Mod_next_59 : decode m_Mod_next.2.1 59 = .ok (.aload_n 0, 1) := by decide +kernel
theorem d_Mod_next_60 : decode m_Mod_next.2.1 60 = .ok (.getfield 16, 3) := by decide +kernel
theorem d_Mod_next_63 : decode m_Mod_next.2.1 63 = .ok (.iload 5, 2) := by decide +kernel
theorem d_Mod_next_65 : decode m_Mod_next.2.1 65 = .ok (.laload, 1) := by decide +kernel
theorem d_Mod_next_66 : decode m_Mod_next.2.1 66 = .ok (.lreturn, 1) := by decide +kernel
theorem d_Mod_rowFrom_0 : decode m_Mod_rowFrom.2.1 0 = .ok (.iconst (-1), 1) := by decide +kernel
theorem d_Mod_rowFrom_1 : decode m_Mod_rowFrom.2.1 1 = .ok (.istore 5, 2) := by decide +kernel
theorem d_Mod_rowFrom_3 : decode m_Mod_rowFrom.2.1 3 = .ok (.iconst 0, 1) := by decide +kernel
theorem d_Mod_rowFrom_4 : decode m_Mod_rowFrom.2.1 4 = .ok (.istore 6, 2) := by decide +kernel
theorem d_Mod_rowFrom_6 : decode m_Mod_rowFrom.2.1 6 = .ok (.iload 6, 2) := by decide +kernel
theorem d_Mod_rowFrom_8 : decode m_Mod_rowFrom.2.1 8 = .ok (.aload_n 0, 1) := by decide +kernel
theorem d_Mod_rowFrom_9 : decode m_Mod_rowFrom.2.1 9 = .ok (.getfield 79, 3) := by decide +kernel
theorem d_Mod_rowFrom_12 : decode m_Mod_rowFrom.2.1 12 = .ok (.if_icmp .ge 102, 3) := by decide +kernel
theorem d_Mod_rowFrom_15 : decode m_Mod_rowFrom.2.1 15 = .ok (.aload_n 0, 1) := by decide +kernel
theorem d_Mod_rowFrom_16 : decode m_Mod_rowFrom.2.1 16 = .ok (.getfield 13, 3) := by decide +kernel
theorem d_Mod_rowFrom_19 : decode m_Mod_rowFrom.2.1 19 = .ok (.iload 6, 2) := by decide +kernel
theorem d_Mod_rowFrom_21 : decode m_Mod_rowFrom.2.1 21 = .ok (.iaload, 1) := by decide +kernel
theorem d_Mod_rowFrom_22 : decode m_Mod_rowFrom.2.1 22 = .ok (.iload_n 1, 1) := by decide +kernel
theorem d_Mod_rowFrom_23 : decode m_Mod_rowFrom.2.1 23 = .ok (.if_icmp .ne 36, 3) := by decide +kernel
theorem d_Mod_rowFrom_26 : decode m_Mod_rowFrom.2.1 26 = .ok (.aload_n 0, 1) := by decide +kernel
theorem d_Mod_rowFrom_27 : decode m_Mod_rowFrom.2.1 27 = .ok (.getfield 16, 3) := by decide +kernel
theorem d_Mod_rowFrom_30 : decode m_Mod_rowFrom.2.1 30 = .ok (.iload 6, 2) := by decide +kernel
theorem d_Mod_rowFrom_32 : decode m_Mod_rowFrom.2.1 32 = .ok (.laload, 1) := by decide +kernel
theorem d_Mod_rowFrom_33 : decode m_Mod_rowFrom.2.1 33 = .ok (.lload_n 2, 1) := by decide +kernel
theorem d_Mod_rowFrom_34 : decode m_Mod_rowFrom.2.1 34 = .ok (.lcmp, 1) := by decide +kernel
theorem d_Mod_rowFrom_35 : decode m_Mod_rowFrom.2.1 35 = .ok (.ifCond .gt 20, 3) := by decide +kernel
theorem d_Mod_rowFrom_38 : decode m_Mod_rowFrom.2.1 38 = .ok (.aload_n 0, 1) := by decide +kernel
theorem d_Mod_rowFrom_39 : decode m_Mod_rowFrom.2.1 39 = .ok (.getfield 16, 3) := by decide +kernel
theorem d_Mod_rowFrom_42 : decode m_Mod_rowFrom.2.1 42 = .ok (.iload 6, 2) := by decide +kernel
theorem d_Mod_rowFrom_44 : decode m_Mod_rowFrom.2.1 44 = .ok (.laload, 1) := by decide +kernel
theorem d_Mod_rowFrom_45 : decode m_Mod_rowFrom.2.1 45 = .ok (.lload_n 2, 1) := by decide +kernel
theorem d_Mod_rowFrom_46 : decode m_Mod_rowFrom.2.1 46 = .ok (.lcmp, 1) := by decide +kernel
theorem d_Mod_rowFrom_47 : decode m_Mod_rowFrom.2.1 47 = .ok (.ifCond .ne 12, 3) := by decide +kernel
theorem d_Mod_rowFrom_50 : decode m_Mod_rowFrom.2.1 50 = .ok (.iload 4, 2) := by decide +kernel
theorem d_Mod_rowFrom_52 : decode m_Mod_rowFrom.2.1 52 = .ok (.ifCond .ne 7, 3) := by decide +kernel
theorem d_Mod_rowFrom_55 : decode m_Mod_rowFrom.2.1 55 = .ok (.iconst 1, 1) := by decide +kernel
theorem d_Mod_rowFrom_56 : decode m_Mod_rowFrom.2.1 56 = .ok (.goto 4, 3) := by decide +kernel
theorem d_Mod_rowFrom_59 : decode m_Mod_rowFrom.2.1 59 = .ok (.iconst 0, 1) := by decide +kernel
theorem d_Mod_rowFrom_60 : decode m_Mod_rowFrom.2.1 60 = .ok (.istore 7, 2) := by decide +kernel
theorem d_Mod_rowFrom_62 : decode m_Mod_rowFrom.2.1 62 = .ok (.iload 7, 2) := by decide +kernel
theorem d_Mod_rowFrom_64 : decode m_Mod_rowFrom.2.1 64 = .ok (.ifCond .eq 40, 3) := by decide +kernel
theorem d_Mod_rowFrom_67 : decode m_Mod_rowFrom.2.1 67 = .ok (.iload 5, 2) := by decide +kernel
theorem d_Mod_rowFrom_69 : decode m_Mod_rowFrom.2.1 69 = .ok (.ifCond .lt 30, 3) := by decide +kernel
theorem d_Mod_rowFrom_72 : decode m_Mod_rowFrom.2.1 72 = .ok (.aload_n 0, 1) := by decide +kernel
theorem d_Mod_rowFrom_73 : decode m_Mod_rowFrom.2.1 73 = .ok (.getfield 16, 3) := by decide +kernel
theorem d_Mod_rowFrom_76 : decode m_Mod_rowFrom.2.1 76 = .ok (.iload 6, 2) := by decide +kernel
theorem d_Mod_rowFrom_78 : decode m_Mod_rowFrom.2.1 78 = .ok (.laload, 1) := by decide +kernel
theorem d_Mod_rowFrom_79 : decode m_Mod_rowFrom.2.1 79 = .ok (.aload_n 0, 1) := by decide +kernel
theorem d_Mod_rowFrom_80 : decode m_Mod_rowFrom.2.1 80 = .ok (.getfield 16, 3) := by decide +kernel
theorem d_Mod_rowFrom_83 : decode m_Mod_rowFrom.2.1 83 = .ok (.iload 5, 2) := by decide +kernel
theorem d_Mod_rowFrom_85 : decode m_Mod_rowFrom.2.1 85 = .ok (.ifCond .ge 7, 3) := by decide +kernel
theorem d_Mod_rowFrom_88 : decode m_Mod_rowFrom.2.1 88 = .ok (.iconst 0, 1) := by decide +kernel
theorem d_Mod_rowFrom_89 : decode m_Mod_rowFrom.2.1 89 = .ok (.goto 5, 3) := by decide +kernel
theorem d_Mod_rowFrom_92 : decode m_Mod_rowFrom.2.1 92 = .ok (.iload 5, 2) := by decide +kernel
theorem d_Mod_rowFrom_94 : decode m_Mod_rowFrom.2.1 94 = .ok (.laload, 1) := by decide +kernel
theorem d_Mod_rowFrom_95 : decode m_Mod_rowFrom.2.1 95 = .ok (.lcmp, 1) := by decide +kernel
theorem d_Mod_rowFrom_96 : decode m_Mod_rowFrom.2.1 96 = .ok (.ifCond .ge 8, 3) := by decide +kernel
theorem d_Mod_rowFrom_99 : decode m_Mod_rowFrom.2.1 99 = .ok (.iload 6, 2) := by decide +kernel
theorem d_Mod_rowFrom_101 : decode m_Mod_rowFrom.2.1 101 = .ok (.goto 5, 3) := by decide +kernel
theorem d_Mod_rowFrom_104 : decode m_Mod_rowFrom.2.1 104 = .ok (.iload 5, 2) := by decide +kernel
theorem d_Mod_rowFrom_106 : decode m_Mod_rowFrom.2.1 106 = .ok (.istore 5, 2) := by decide +kernel
theorem d_Mod_rowFrom_108 : decode m_Mod_rowFrom.2.1 108 = .ok (.iinc 6 1, 3) := by decide +kernel
theorem d_Mod_rowFrom_111 : decode m_Mod_rowFrom.2.1 111 = .ok (.goto (-105), 3) := by decide +kernel
theorem d_Mod_rowFrom_114 : decode m_Mod_rowFrom.2.1 114 = .ok (.iload 5, 2) := by decide +kernel
theorem d_Mod_rowFrom_116 : decode m_Mod_rowFrom.2.1 116 = .ok (.ireturn, 1) := by decide +kernel
theorem d_Mod_value_0 : decode m_Mod_value.2.1 0 = .ok (.aload_n 0, 1) := by decide +kernel
theorem d_Mod_value_1 : decode m_Mod_value.2.1 1 = .ok (.iload_n 1, 1) := by decide +kernel
theorem d_Mod_value_2 : decode m_Mod_value.2.1 2 = .ok (.lload_n 2, 1) := by decide +kernel
theorem d_Mod_value_3 : decode m_Mod_value.2.1 3 = .ok (.iload 4, 2) := by decide +kernel
theorem d_Mod_value_5 : decode m_Mod_value.2.1 5 = .ok (.invokevirtual 102, 3) := by decide +kernel
theorem d_Mod_value_8 : decode m_Mod_value.2.1 8 = .ok (.istore 5, 2) := by decide +kernel
theorem d_Mod_value_10 : decode m_Mod_value.2.1 10 = .ok (.iload 5, 2) := by decide +kernel
theorem d_Mod_value_12 : decode m_Mod_value.2.1 12 = .ok (.ifCond .ge 7, 3) := by decide +kernel
theorem d_Mod_value_15 : decode m_Mod_value.2.1 15 = .ok (.lconst 0, 1) := by decide +kernel
theorem d_Mod_value_16 : decode m_Mod_value.2.1 16 = .ok (.goto 15, 3) := by decide +kernel
theorem d_Mod_value_19 : decode m_Mod_value.2.1 19 = .ok (.aload_n 0, 1) := by decide +kernel
theorem d_Mod_value_20 : decode m_Mod_value.2.1 20 = .ok (.getfield 20, 3) := by decide +kernel
theorem d_Mod_value_23 : decode m_Mod_value.2.1 23 = .ok (.iconst 4, 1) := by decide +kernel
theorem d_Mod_value_24 : decode m_Mod_value.2.1 24 = .ok (.iload 5, 2) := by decide +kernel
theorem d_Mod_value_26 : decode m_Mod_value.2.1 26 = .ok (.imul, 1) := by decide +kernel
theorem d_Mod_value_27 : decode m_Mod_value.2.1 27 = .ok (.iload 4, 2) := by decide +kernel
theorem d_Mod_value_29 : decode m_Mod_value.2.1 29 = .ok (.iadd, 1) := by decide +kernel
theorem d_Mod_value_30 : decode m_Mod_value.2.1 30 = .ok (.laload, 1) := by decide +kernel
theorem d_Mod_value_31 : decode m_Mod_value.2.1 31 = .ok (.lreturn, 1) := by decide +kernel
theorem d_Mod_asked_0 : decode m_Mod_asked.2.1 0 = .ok (.aload_n 0, 1) := by decide +kernel
theorem d_Mod_asked_1 : decode m_Mod_asked.2.1 1 = .ok (.aload_n 0, 1) := by decide +kernel
theorem d_Mod_asked_2 : decode m_Mod_asked.2.1 2 = .ok (.iload_n 1, 1) := by decide +kernel
theorem d_Mod_asked_3 : decode m_Mod_asked.2.1 3 = .ok (.invokevirtual 82, 3) := by decide +kernel
theorem d_Mod_asked_6 : decode m_Mod_asked.2.1 6 = .ok (.ifCond .eq 7, 3) := by decide +kernel
theorem d_Mod_asked_9 : decode m_Mod_asked.2.1 9 = .ok (.iconst 0, 1) := by decide +kernel
theorem d_Mod_asked_10 : decode m_Mod_asked.2.1 10 = .ok (.goto 4, 3) := by decide +kernel
theorem d_Mod_asked_13 : decode m_Mod_asked.2.1 13 = .ok (.iconst 1, 1) := by decide +kernel
theorem d_Mod_asked_14 : decode m_Mod_asked.2.1 14 = .ok (.putfield 73, 3) := by decide +kernel
theorem d_Mod_asked_17 : decode m_Mod_asked.2.1 17 = .ok (.aload_n 0, 1) := by decide +kernel
theorem d_Mod_asked_18 : decode m_Mod_asked.2.1 18 = .ok (.getfield 73, 3) := by decide +kernel
theorem d_Mod_asked_21 : decode m_Mod_asked.2.1 21 = .ok (.ifCond .le 5, 3) := by decide +kernel
theorem d_Mod_asked_24 : decode m_Mod_asked.2.1 24 = .ok (.iconst (-1), 1) := by decide +kernel
theorem d_Mod_asked_25 : decode m_Mod_asked.2.1 25 = .ok (.ireturn, 1) := by decide +kernel
theorem d_Mod_asked_26 : decode m_Mod_asked.2.1 26 = .ok (.aload_n 0, 1) := by decide +kernel
theorem d_Mod_asked_27 : decode m_Mod_asked.2.1 27 = .ok (.iload_n 1, 1) := by decide +kernel
theorem d_Mod_asked_28 : decode m_Mod_asked.2.1 28 = .ok (.lload_n 2, 1) := by decide +kernel
theorem d_Mod_asked_29 : decode m_Mod_asked.2.1 29 = .ok (.invokevirtual 86, 3) := by decide +kernel
theorem d_Mod_asked_32 : decode m_Mod_asked.2.1 32 = .ok (.istore 5, 2) := by decide +kernel
theorem d_Mod_asked_34 : decode m_Mod_asked.2.1 34 = .ok (.aload_n 0, 1) := by decide +kernel
theorem d_Mod_asked_35 : decode m_Mod_asked.2.1 35 = .ok (.iload 4, 2) := by decide +kernel
theorem d_Mod_asked_37 : decode m_Mod_asked.2.1 37 = .ok (.ifCond .lt 14, 3) := by decide +kernel
theorem d_Mod_asked_40 : decode m_Mod_asked.2.1 40 = .ok (.iload 4, 2) := by decide +kernel
theorem d_Mod_asked_42 : decode m_Mod_asked.2.1 42 = .ok (.aload_n 0, 1) := by decide +kernel
theorem d_Mod_asked_43 : decode m_Mod_asked.2.1 43 = .ok (.getfield 7, 3) := by decide +kernel
theorem d_Mod_asked_46 : decode m_Mod_asked.2.1 46 = .ok (.iload_n 1, 1) := by decide +kernel
theorem d_Mod_asked_47 : decode m_Mod_asked.2.1 47 = .ok (.iaload, 1) := by decide +kernel
theorem d_Mod_asked_48 : decode m_Mod_asked.2.1 48 = .ok (.if_icmp .lt 7, 3) := by decide +kernel
theorem d_Mod_asked_51 : decode m_Mod_asked.2.1 51 = .ok (.iconst 1, 1) := by decide +kernel
theorem d_Mod_asked_52 : decode m_Mod_asked.2.1 52 = .ok (.goto 13, 3) := by decide +kernel
theorem d_Mod_asked_55 : decode m_Mod_asked.2.1 55 = .ok (.iload 5, 2) := by decide +kernel
theorem d_Mod_asked_57 : decode m_Mod_asked.2.1 57 = .ok (.ifCond .ge 7, 3) := by decide +kernel
theorem d_Mod_asked_60 : decode m_Mod_asked.2.1 60 = .ok (.iconst 2, 1) := by decide +kernel
theorem d_Mod_asked_61 : decode m_Mod_asked.2.1 61 = .ok (.goto 4, 3) := by decide +kernel
theorem d_Mod_asked_64 : decode m_Mod_asked.2.1 64 = .ok (.iconst 0, 1) := by decide +kernel
theorem d_Mod_asked_65 : decode m_Mod_asked.2.1 65 = .ok (.putfield 73, 3) := by decide +kernel
theorem d_Mod_asked_68 : decode m_Mod_asked.2.1 68 = .ok (.aload_n 0, 1) := by decide +kernel
theorem d_Mod_asked_69 : decode m_Mod_asked.2.1 69 = .ok (.getfield 73, 3) := by decide +kernel
theorem d_Mod_asked_72 : decode m_Mod_asked.2.1 72 = .ok (.ifCond .le 7, 3) := by decide +kernel
theorem d_Mod_asked_75 : decode m_Mod_asked.2.1 75 = .ok (.iconst (-1), 1) := by decide +kernel
theorem d_Mod_asked_76 : decode m_Mod_asked.2.1 76 = .ok (.goto 5, 3) := by decide +kernel
theorem d_Mod_asked_79 : decode m_Mod_asked.2.1 79 = .ok (.iload 5, 2) := by decide +kernel
theorem d_Mod_asked_81 : decode m_Mod_asked.2.1 81 = .ok (.ireturn, 1) := by decide +kernel
theorem d_Mod_isNull_0 : decode m_Mod_isNull.2.1 0 = .ok (.aload_n 0, 1) := by decide +kernel
theorem d_Mod_isNull_1 : decode m_Mod_isNull.2.1 1 = .ok (.iload_n 1, 1) := by decide +kernel
theorem d_Mod_isNull_2 : decode m_Mod_isNull.2.1 2 = .ok (.lload_n 2, 1) := by decide +kernel
theorem d_Mod_isNull_3 : decode m_Mod_isNull.2.1 3 = .ok (.iload 4, 2) := by decide +kernel
theorem d_Mod_isNull_5 : decode m_Mod_isNull.2.1 5 = .ok (.invokevirtual 102, 3) := by decide +kernel
theorem d_Mod_isNull_8 : decode m_Mod_isNull.2.1 8 = .ok (.istore 5, 2) := by decide +kernel
theorem d_Mod_isNull_10 : decode m_Mod_isNull.2.1 10 = .ok (.iload 5, 2) := by decide +kernel
theorem d_Mod_isNull_12 : decode m_Mod_isNull.2.1 12 = .ok (.ifCond .lt 22, 3) := by decide +kernel
theorem d_Mod_isNull_15 : decode m_Mod_isNull.2.1 15 = .ok (.aload_n 0, 1) := by decide +kernel
theorem d_Mod_isNull_16 : decode m_Mod_isNull.2.1 16 = .ok (.getfield 23, 3) := by decide +kernel
theorem d_Mod_isNull_19 : decode m_Mod_isNull.2.1 19 = .ok (.iconst 4, 1) := by decide +kernel
theorem d_Mod_isNull_20 : decode m_Mod_isNull.2.1 20 = .ok (.iload 5, 2) := by decide +kernel
theorem d_Mod_isNull_22 : decode m_Mod_isNull.2.1 22 = .ok (.imul, 1) := by decide +kernel
theorem d_Mod_isNull_23 : decode m_Mod_isNull.2.1 23 = .ok (.iload 4, 2) := by decide +kernel
theorem d_Mod_isNull_25 : decode m_Mod_isNull.2.1 25 = .ok (.iadd, 1) := by decide +kernel
theorem d_Mod_isNull_26 : decode m_Mod_isNull.2.1 26 = .ok (.baload, 1) := by decide +kernel
theorem d_Mod_isNull_27 : decode m_Mod_isNull.2.1 27 = .ok (.ifCond .ne 7, 3) := by decide +kernel
theorem d_Mod_isNull_30 : decode m_Mod_isNull.2.1 30 = .ok (.iconst 1, 1) := by decide +kernel
theorem d_Mod_isNull_31 : decode m_Mod_isNull.2.1 31 = .ok (.goto 4, 3) := by decide +kernel
theorem d_Mod_isNull_34 : decode m_Mod_isNull.2.1 34 = .ok (.iconst 0, 1) := by decide +kernel
theorem d_Mod_isNull_35 : decode m_Mod_isNull.2.1 35 = .ok (.ireturn, 1) := by decide +kernel
theorem d_Mod_add_0 : decode m_Mod_add.2.1 0 = .ok (.aload_n 0, 1) := by decide +kernel
theorem d_Mod_add_1 : decode m_Mod_add.2.1 1 = .ok (.iload_n 1, 1) := by decide +kernel
theorem d_Mod_add_2 : decode m_Mod_add.2.1 2 = .ok (.iload_n 2, 1) := by decide +kernel
theorem d_Mod_add_3 : decode m_Mod_add.2.1 3 = .ok (.iload_n 3, 1) := by decide +kernel
theorem d_Mod_add_4 : decode m_Mod_add.2.1 4 = .ok (.iload 4, 2) := by decide +kernel
theorem d_Mod_add_6 : decode m_Mod_add.2.1 6 = .ok (.invokestatic 117, 3) := by decide +kernel
theorem d_Mod_add_9 : decode m_Mod_add.2.1 9 = .ok (.ifCond .ne 7, 3) := by decide +kernel
theorem d_Mod_add_12 : decode m_Mod_add.2.1 12 = .ok (.iconst 1, 1) := by decide +kernel
theorem d_Mod_add_13 : decode m_Mod_add.2.1 13 = .ok (.goto 17, 3) := by decide +kernel
theorem d_Mod_add_16 : decode m_Mod_add.2.1 16 = .ok (.aload_n 0, 1) := by decide +kernel
theorem d_Mod_add_17 : decode m_Mod_add.2.1 17 = .ok (.getfield 110, 3) := by decide +kernel
theorem d_Mod_add_20 : decode m_Mod_add.2.1 20 = .ok (.bipush 60, 2) := by decide +kernel
theorem d_Mod_add_22 : decode m_Mod_add.2.1 22 = .ok (.if_icmp .ne 7, 3) := by decide +kernel
theorem d_Mod_add_25 : decode m_Mod_add.2.1 25 = .ok (.iconst 2, 1) := by decide +kernel
theorem d_Mod_add_26 : decode m_Mod_add.2.1 26 = .ok (.goto 4, 3) := by decide +kernel
theorem d_Mod_add_29 : decode m_Mod_add.2.1 29 = .ok (.iconst 0, 1) := by decide +kernel
theorem d_Mod_add_30 : decode m_Mod_add.2.1 30 = .ok (.putfield 73, 3) := by decide +kernel
theorem d_Mod_add_33 : decode m_Mod_add.2.1 33 = .ok (.aload_n 0, 1) := by decide +kernel
theorem d_Mod_add_34 : decode m_Mod_add.2.1 34 = .ok (.getfield 73, 3) := by decide +kernel
theorem d_Mod_add_37 : decode m_Mod_add.2.1 37 = .ok (.ifCond .le 5, 3) := by decide +kernel
theorem d_Mod_add_40 : decode m_Mod_add.2.1 40 = .ok (.iconst 0, 1) := by decide +kernel
theorem d_Mod_add_41 : decode m_Mod_add.2.1 41 = .ok (.ireturn, 1) := by decide +kernel
theorem d_Mod_add_42 : decode m_Mod_add.2.1 42 = .ok (.aload_n 0, 1) := by decide +kernel
theorem d_Mod_add_43 : decode m_Mod_add.2.1 43 = .ok (.iload_n 1, 1) := by decide +kernel
theorem d_Mod_add_44 : decode m_Mod_add.2.1 44 = .ok (.iload_n 2, 1) := by decide +kernel
theorem d_Mod_add_45 : decode m_Mod_add.2.1 45 = .ok (.iload_n 3, 1) := by decide +kernel
theorem d_Mod_add_46 : decode m_Mod_add.2.1 46 = .ok (.iload 4, 2) := by decide +kernel
theorem d_Mod_add_48 : decode m_Mod_add.2.1 48 = .ok (.invokevirtual 121, 3) := by decide +kernel
theorem d_Mod_add_51 : decode m_Mod_add.2.1 51 = .ok (.aload_n 0, 1) := by decide +kernel
theorem d_Mod_add_52 : decode m_Mod_add.2.1 52 = .ok (.getfield 110, 3) := by decide +kernel
theorem d_Mod_add_55 : decode m_Mod_add.2.1 55 = .ok (.iconst 1, 1) := by decide +kernel
theorem d_Mod_add_56 : decode m_Mod_add.2.1 56 = .ok (.isub, 1) := by decide +kernel
theorem d_Mod_add_57 : decode m_Mod_add.2.1 57 = .ok (.ireturn, 1) := by decide +kernel
theorem d_Mod_fits_0 : decode m_Mod_fits.2.1 0 = .ok (.iload_n 0, 1) := by decide +kernel
theorem d_Mod_fits_1 : decode m_Mod_fits.2.1 1 = .ok (.tableswitch 385 0 21 #[103, 105, 127, 127, 150, 181, 204, 211, 218, 385, 385, 385, 385, 385, 385, 250, 250, 274, 307, 340, 347, 379], 103) := by decide +kernel
theorem d_Mod_fits_104 : decode m_Mod_fits.2.1 104 = .ok (.iconst 1, 1) := by decide +kernel
theorem d_Mod_fits_105 : decode m_Mod_fits.2.1 105 = .ok (.ireturn, 1) := by decide +kernel
theorem d_Mod_fits_106 : decode m_Mod_fits.2.1 106 = .ok (.iload_n 1, 1) := by decide +kernel
theorem d_Mod_fits_107 : decode m_Mod_fits.2.1 107 = .ok (.iconst 2, 1) := by decide +kernel
theorem d_Mod_fits_108 : decode m_Mod_fits.2.1 108 = .ok (.invokestatic 106, 3) := by decide +kernel
theorem d_Mod_fits_111 : decode m_Mod_fits.2.1 111 = .ok (.ifCond .eq 15, 3) := by decide +kernel
theorem d_Mod_fits_114 : decode m_Mod_fits.2.1 114 = .ok (.iload_n 2, 1) := by decide +kernel
theorem d_Mod_fits_115 : decode m_Mod_fits.2.1 115 = .ok (.iconst 2, 1) := by decide +kernel
theorem d_Mod_fits_116 : decode m_Mod_fits.2.1 116 = .ok (.invokestatic 106, 3) := by decide +kernel
theorem d_Mod_fits_119 : decode m_Mod_fits.2.1 119 = .ok (.ifCond .eq 7, 3) := by decide +kernel
theorem d_Mod_fits_122 : decode m_Mod_fits.2.1 122 = .ok (.iconst 1, 1) := by decide +kernel
theorem d_Mod_fits_123 : decode m_Mod_fits.2.1 123 = .ok (.goto 4, 3) := by decide +kernel
theorem d_Mod_fits_126 : decode m_Mod_fits.2.1 126 = .ok (.iconst 0, 1) := by decide +kernel
theorem d_Mod_fits_127 : decode m_Mod_fits.2.1 127 = .ok (.ireturn, 1) := by decide +kernel
theorem d_Mod_fits_128 : decode m_Mod_fits.2.1 128 = .ok (.iload_n 1, 1) := by decide +kernel
theorem d_Mod_fits_129 : decode m_Mod_fits.2.1 129 = .ok (.iconst 2, 1) := by decide +kernel
theorem d_Mod_fits_130 : decode m_Mod_fits.2.1 130 = .ok (.invokestatic 106, 3) := by decide +kernel
theorem d_Mod_fits_133 : decode m_Mod_fits.2.1 133 = .ok (.ifCond .eq 16, 3) := by decide +kernel
theorem d_Mod_fits_136 : decode m_Mod_fits.2.1 136 = .ok (.iload_n 2, 1) := by decide +kernel
theorem d_Mod_fits_137 : decode m_Mod_fits.2.1 137 = .ok (.bipush 60, 2) := by decide +kernel
theorem d_Mod_fits_139 : decode m_Mod_fits.2.1 139 = .ok (.invokestatic 106, 3) := by decide +kernel
theorem d_Mod_fits_142 : decode m_Mod_fits.2.1 142 = .ok (.ifCond .eq 7, 3) := by decide +kernel
theorem d_Mod_fits_145 : decode m_Mod_fits.2.1 145 = .ok (.iconst 1, 1) := by decide +kernel
theorem d_Mod_fits_146 : decode m_Mod_fits.2.1 146 = .ok (.goto 4, 3) := by decide +kernel
theorem d_Mod_fits_149 : decode m_Mod_fits.2.1 149 = .ok (.iconst 0, 1) := by decide +kernel
theorem d_Mod_fits_150 : decode m_Mod_fits.2.1 150 = .ok (.ireturn, 1) := by decide +kernel
end
section
theorem d_Mod_fits_151 : decode m_Mod_fits.2.1 151 = .ok (.iload_n 1, 1) := by decide +kernel
theorem d_Mod_fits_152 : decode m_Mod_fits.2.1 152 = .ok (.iconst 2, 1) := by decide +kernel
theorem d_Mod_fits_153 : decode m_Mod_fits.2.1 153 = .ok (.invokestatic 106, 3) := by decide +kernel
theorem d_Mod_fits_156 : decode m_Mod_fits.2.1 156 = .ok (.ifCond .eq 24, 3) := by decide +kernel
theorem d_Mod_fits_159 : decode m_Mod_fits.2.1 159 = .ok (.iload_n 2, 1) := by decide +kernel
theorem d_Mod_fits_160 : decode m_Mod_fits.2.1 160 = .ok (.iconst 3, 1) := by decide +kernel
theorem d_Mod_fits_161 : decode m_Mod_fits.2.1 161 = .ok (.invokestatic 106, 3) := by decide +kernel
theorem d_Mod_fits_164 : decode m_Mod_fits.2.1 164 = .ok (.ifCond .eq 16, 3) := by decide +kernel
theorem d_Mod_fits_167 : decode m_Mod_fits.2.1 167 = .ok (.iload_n 3, 1) := by decide +kernel
theorem d_Mod_fits_168 : decode m_Mod_fits.2.1 168 = .ok (.bipush 15, 2) := by decide +kernel
theorem d_Mod_fits_170 : decode m_Mod_fits.2.1 170 = .ok (.invokestatic 106, 3) := by decide +kernel
theorem d_Mod_fits_173 : decode m_Mod_fits.2.1 173 = .ok (.ifCond .eq 7, 3) := by decide +kernel
theorem d_Mod_fits_176 : decode m_Mod_fits.2.1 176 = .ok (.iconst 1, 1) := by decide +kernel
theorem d_Mod_fits_177 : decode m_Mod_fits.2.1 177 = .ok (.goto 4, 3) := by decide +kernel
theorem d_Mod_fits_180 : decode m_Mod_fits.2.1 180 = .ok (.iconst 0, 1) := by decide +kernel
theorem d_Mod_fits_181 : decode m_Mod_fits.2.1 181 = .ok (.ireturn, 1) := by decide +kernel
theorem d_Mod_fits_182 : decode m_Mod_fits.2.1 182 = .ok (.iload_n 1, 1) := by decide +kernel
theorem d_Mod_fits_183 : decode m_Mod_fits.2.1 183 = .ok (.iconst 2, 1) := by decide +kernel
theorem d_Mod_fits_184 : decode m_Mod_fits.2.1 184 = .ok (.invokestatic 106, 3) := by decide +kernel
theorem d_Mod_fits_187 : decode m_Mod_fits.2.1 187 = .ok (.ifCond .eq 16, 3) := by decide +kernel
theorem d_Mod_fits_190 : decode m_Mod_fits.2.1 190 = .ok (.iload_n 2, 1) := by decide +kernel
theorem d_Mod_fits_191 : decode m_Mod_fits.2.1 191 = .ok (.bipush 15, 2) := by decide +kernel
theorem d_Mod_fits_193 : decode m_Mod_fits.2.1 193 = .ok (.invokestatic 106, 3) := by decide +kernel
theorem d_Mod_fits_196 : decode m_Mod_fits.2.1 196 = .ok (.ifCond .eq 7, 3) := by decide +kernel
theorem d_Mod_fits_199 : decode m_Mod_fits.2.1 199 = .ok (.iconst 1, 1) := by decide +kernel
theorem d_Mod_fits_200 : decode m_Mod_fits.2.1 200 = .ok (.goto 4, 3) := by decide +kernel
theorem d_Mod_fits_203 : decode m_Mod_fits.2.1 203 = .ok (.iconst 0, 1) := by decide +kernel
theorem d_Mod_fits_204 : decode m_Mod_fits.2.1 204 = .ok (.ireturn, 1) := by decide +kernel
theorem d_Mod_fits_205 : decode m_Mod_fits.2.1 205 = .ok (.iload_n 2, 1) := by decide +kernel
theorem d_Mod_fits_206 : decode m_Mod_fits.2.1 206 = .ok (.bipush 15, 2) := by decide +kernel
theorem d_Mod_fits_208 : decode m_Mod_fits.2.1 208 = .ok (.invokestatic 106, 3) := by decide +kernel
theorem d_Mod_fits_211 : decode m_Mod_fits.2.1 211 = .ok (.ireturn, 1) := by decide +kernel
theorem d_Mod_fits_212 : decode m_Mod_fits.2.1 212 = .ok (.iload_n 1, 1) := by decide +kernel
theorem d_Mod_fits_213 : decode m_Mod_fits.2.1 213 = .ok (.bipush 15, 2) := by decide +kernel
theorem d_Mod_fits_215 : decode m_Mod_fits.2.1 215 = .ok (.invokestatic 106, 3) := by decide +kernel
theorem d_Mod_fits_218 : decode m_Mod_fits.2.1 218 = .ok (.ireturn, 1) := by decide +kernel
theorem d_Mod_fits_219 : decode m_Mod_fits.2.1 219 = .ok (.iload_n 1, 1) := by decide +kernel
theorem d_Mod_fits_220 : decode m_Mod_fits.2.1 220 = .ok (.iconst 2, 1) := by decide +kernel
theorem d_Mod_fits_221 : decode m_Mod_fits.2.1 221 = .ok (.invokestatic 106, 3) := by decide +kernel
theorem d_Mod_fits_224 : decode m_Mod_fits.2.1 224 = .ok (.ifCond .eq 25, 3) := by decide +kernel
theorem d_Mod_fits_227 : decode m_Mod_fits.2.1 227 = .ok (.iload_n 2, 1) := by decide +kernel
theorem d_Mod_fits_228 : decode m_Mod_fits.2.1 228 = .ok (.bipush 60, 2) := by decide +kernel
theorem d_Mod_fits_230 : decode m_Mod_fits.2.1 230 = .ok (.invokestatic 106, 3) := by decide +kernel
theorem d_Mod_fits_233 : decode m_Mod_fits.2.1 233 = .ok (.ifCond .eq 16, 3) := by decide +kernel
theorem d_Mod_fits_236 : decode m_Mod_fits.2.1 236 = .ok (.iload_n 3, 1) := by decide +kernel
theorem d_Mod_fits_237 : decode m_Mod_fits.2.1 237 = .ok (.bipush 15, 2) := by decide +kernel
theorem d_Mod_fits_239 : decode m_Mod_fits.2.1 239 = .ok (.invokestatic 106, 3) := by decide +kernel
theorem d_Mod_fits_242 : decode m_Mod_fits.2.1 242 = .ok (.ifCond .eq 7, 3) := by decide +kernel
theorem d_Mod_fits_245 : decode m_Mod_fits.2.1 245 = .ok (.iconst 1, 1) := by decide +kernel
theorem d_Mod_fits_246 : decode m_Mod_fits.2.1 246 = .ok (.goto 4, 3) := by decide +kernel
theorem d_Mod_fits_249 : decode m_Mod_fits.2.1 249 = .ok (.iconst 0, 1) := by decide +kernel
theorem d_Mod_fits_250 : decode m_Mod_fits.2.1 250 = .ok (.ireturn, 1) := by decide +kernel
theorem d_Mod_fits_251 : decode m_Mod_fits.2.1 251 = .ok (.iload_n 1, 1) := by decide +kernel
theorem d_Mod_fits_252 : decode m_Mod_fits.2.1 252 = .ok (.bipush 15, 2) := by decide +kernel
theorem d_Mod_fits_254 : decode m_Mod_fits.2.1 254 = .ok (.invokestatic 106, 3) := by decide +kernel
theorem d_Mod_fits_257 : decode m_Mod_fits.2.1 257 = .ok (.ifCond .eq 16, 3) := by decide +kernel
theorem d_Mod_fits_260 : decode m_Mod_fits.2.1 260 = .ok (.iload_n 2, 1) := by decide +kernel
theorem d_Mod_fits_261 : decode m_Mod_fits.2.1 261 = .ok (.bipush 60, 2) := by decide +kernel
theorem d_Mod_fits_263 : decode m_Mod_fits.2.1 263 = .ok (.invokestatic 106, 3) := by decide +kernel
theorem d_Mod_fits_266 : decode m_Mod_fits.2.1 266 = .ok (.ifCond .eq 7, 3) := by decide +kernel
theorem d_Mod_fits_269 : decode m_Mod_fits.2.1 269 = .ok (.iconst 1, 1) := by decide +kernel
theorem d_Mod_fits_270 : decode m_Mod_fits.2.1 270 = .ok (.goto 4, 3) := by decide +kernel
theorem d_Mod_fits_273 : decode m_Mod_fits.2.1 273 = .ok (.iconst 0, 1) := by decide +kernel
theorem d_Mod_fits_274 : decode m_Mod_fits.2.1 274 = .ok (.ireturn, 1) := by decide +kernel
theorem d_Mod_fits_275 : decode m_Mod_fits.2.1 275 = .ok (.iload_n 1, 1) := by decide +kernel
theorem d_Mod_fits_276 : decode m_Mod_fits.2.1 276 = .ok (.bipush 15, 2) := by decide +kernel
theorem d_Mod_fits_278 : decode m_Mod_fits.2.1 278 = .ok (.invokestatic 106, 3) := by decide +kernel
theorem d_Mod_fits_281 : decode m_Mod_fits.2.1 281 = .ok (.ifCond .eq 25, 3) := by decide +kernel
theorem d_Mod_fits_284 : decode m_Mod_fits.2.1 284 = .ok (.iload_n 2, 1) := by decide +kernel
theorem d_Mod_fits_285 : decode m_Mod_fits.2.1 285 = .ok (.bipush 15, 2) := by decide +kernel
theorem d_Mod_fits_287 : decode m_Mod_fits.2.1 287 = .ok (.invokestatic 106, 3) := by decide +kernel
theorem d_Mod_fits_290 : decode m_Mod_fits.2.1 290 = .ok (.ifCond .eq 16, 3) := by decide +kernel
theorem d_Mod_fits_293 : decode m_Mod_fits.2.1 293 = .ok (.iload_n 3, 1) := by decide +kernel
theorem d_Mod_fits_294 : decode m_Mod_fits.2.1 294 = .ok (.bipush 15, 2) := by decide +kernel
theorem d_Mod_fits_296 : decode m_Mod_fits.2.1 296 = .ok (.invokestatic 106, 3) := by decide +kernel
theorem d_Mod_fits_299 : decode m_Mod_fits.2.1 299 = .ok (.ifCond .eq 7, 3) := by decide +kernel
theorem d_Mod_fits_302 : decode m_Mod_fits.2.1 302 = .ok (.iconst 1, 1) := by decide +kernel
theorem d_Mod_fits_303 : decode m_Mod_fits.2.1 303 = .ok (.goto 4, 3) := by decide +kernel
theorem d_Mod_fits_306 : decode m_Mod_fits.2.1 306 = .ok (.iconst 0, 1) := by decide +kernel
theorem d_Mod_fits_307 : decode m_Mod_fits.2.1 307 = .ok (.ireturn, 1) := by decide +kernel
theorem d_Mod_fits_308 : decode m_Mod_fits.2.1 308 = .ok (.iload_n 1, 1) := by decide +kernel
theorem d_Mod_fits_309 : decode m_Mod_fits.2.1 309 = .ok (.bipush 15, 2) := by decide +kernel
theorem d_Mod_fits_311 : decode m_Mod_fits.2.1 311 = .ok (.invokestatic 106, 3) := by decide +kernel
theorem d_Mod_fits_314 : decode m_Mod_fits.2.1 314 = .ok (.ifCond .eq 25, 3) := by decide +kernel
theorem d_Mod_fits_317 : decode m_Mod_fits.2.1 317 = .ok (.iload_n 2, 1) := by decide +kernel
theorem d_Mod_fits_318 : decode m_Mod_fits.2.1 318 = .ok (.iconst 1, 1) := by decide +kernel
theorem d_Mod_fits_319 : decode m_Mod_fits.2.1 319 = .ok (.if_icmp .lt 20, 3) := by decide +kernel
theorem d_Mod_fits_322 : decode m_Mod_fits.2.1 322 = .ok (.iload_n 2, 1) := by decide +kernel
theorem d_Mod_fits_323 : decode m_Mod_fits.2.1 323 = .ok (.iconst 4, 1) := by decide +kernel
theorem d_Mod_fits_324 : decode m_Mod_fits.2.1 324 = .ok (.if_icmp .gt 15, 3) := by decide +kernel
theorem d_Mod_fits_327 : decode m_Mod_fits.2.1 327 = .ok (.iload_n 1, 1) := by decide +kernel
theorem d_Mod_fits_328 : decode m_Mod_fits.2.1 328 = .ok (.iload_n 2, 1) := by decide +kernel
theorem d_Mod_fits_329 : decode m_Mod_fits.2.1 329 = .ok (.iadd, 1) := by decide +kernel
theorem d_Mod_fits_330 : decode m_Mod_fits.2.1 330 = .ok (.bipush 16, 2) := by decide +kernel
theorem d_Mod_fits_332 : decode m_Mod_fits.2.1 332 = .ok (.if_icmp .gt 7, 3) := by decide +kernel
theorem d_Mod_fits_335 : decode m_Mod_fits.2.1 335 = .ok (.iconst 1, 1) := by decide +kernel
theorem d_Mod_fits_336 : decode m_Mod_fits.2.1 336 = .ok (.goto 4, 3) := by decide +kernel
theorem d_Mod_fits_339 : decode m_Mod_fits.2.1 339 = .ok (.iconst 0, 1) := by decide +kernel
theorem d_Mod_fits_340 : decode m_Mod_fits.2.1 340 = .ok (.ireturn, 1) := by decide +kernel
theorem d_Mod_fits_341 : decode m_Mod_fits.2.1 341 = .ok (.iload_n 1, 1) := by decide +kernel
theorem d_Mod_fits_342 : decode m_Mod_fits.2.1 342 = .ok (.bipush 60, 2) := by decide +kernel
theorem d_Mod_fits_344 : decode m_Mod_fits.2.1 344 = .ok (.invokestatic 106, 3) := by decide +kernel
theorem d_Mod_fits_347 : decode m_Mod_fits.2.1 347 = .ok (.ireturn, 1) := by decide +kernel
theorem d_Mod_fits_348 : decode m_Mod_fits.2.1 348 = .ok (.iload_n 1, 1) := by decide +kernel
theorem d_Mod_fits_349 : decode m_Mod_fits.2.1 349 = .ok (.iconst 2, 1) := by decide +kernel
theorem d_Mod_fits_350 : decode m_Mod_fits.2.1 350 = .ok (.invokestatic 106, 3) := by decide +kernel
theorem d_Mod_fits_353 : decode m_Mod_fits.2.1 353 = .ok (.ifCond .eq 25, 3) := by decide +kernel
theorem d_Mod_fits_356 : decode m_Mod_fits.2.1 356 = .ok (.iload_n 2, 1) := by decide +kernel
theorem d_Mod_fits_357 : decode m_Mod_fits.2.1 357 = .ok (.bipush 60, 2) := by decide +kernel
theorem d_Mod_fits_359 : decode m_Mod_fits.2.1 359 = .ok (.invokestatic 106, 3) := by decide +kernel
theorem d_Mod_fits_362 : decode m_Mod_fits.2.1 362 = .ok (.ifCond .eq 16, 3) := by decide +kernel
theorem d_Mod_fits_365 : decode m_Mod_fits.2.1 365 = .ok (.iload_n 3, 1) := by decide +kernel
theorem d_Mod_fits_366 : decode m_Mod_fits.2.1 366 = .ok (.bipush 11, 2) := by decide +kernel
theorem d_Mod_fits_368 : decode m_Mod_fits.2.1 368 = .ok (.invokestatic 106, 3) := by decide +kernel
theorem d_Mod_fits_371 : decode m_Mod_fits.2.1 371 = .ok (.ifCond .eq 7, 3) := by decide +kernel
theorem d_Mod_fits_374 : decode m_Mod_fits.2.1 374 = .ok (.iconst 1, 1) := by decide +kernel
theorem d_Mod_fits_375 : decode m_Mod_fits.2.1 375 = .ok (.goto 4, 3) := by decide +kernel
theorem d_Mod_fits_378 : decode m_Mod_fits.2.1 378 = .ok (.iconst 0, 1) := by decide +kernel
theorem d_Mod_fits_379 : decode m_Mod_fits.2.1 379 = .ok (.ireturn, 1) := by decide +kernel
theorem d_Mod_fits_380 : decode m_Mod_fits.2.1 380 = .ok (.iload_n 1, 1) := by decide +kernel
theorem d_Mod_fits_381 : decode m_Mod_fits.2.1 381 = .ok (.iconst 2, 1) := by decide +kernel
theorem d_Mod_fits_382 : decode m_Mod_fits.2.1 382 = .ok (.invokestatic 106, 3) := by decide +kernel
theorem d_Mod_fits_385 : decode m_Mod_fits.2.1 385 = .ok (.ireturn, 1) := by decide +kernel
theorem d_Mod_fits_386 : decode m_Mod_fits.2.1 386 = .ok (.iload_n 0, 1) := by decide +kernel
theorem d_Mod_fits_387 : decode m_Mod_fits.2.1 387 = .ok (.bipush 8, 2) := by decide +kernel
theorem d_Mod_fits_389 : decode m_Mod_fits.2.1 389 = .ok (.if_icmp .le 40, 3) := by decide +kernel
theorem d_Mod_fits_392 : decode m_Mod_fits.2.1 392 = .ok (.iload_n 0, 1) := by decide +kernel
theorem d_Mod_fits_393 : decode m_Mod_fits.2.1 393 = .ok (.bipush 15, 2) := by decide +kernel
theorem d_Mod_fits_395 : decode m_Mod_fits.2.1 395 = .ok (.if_icmp .ge 34, 3) := by decide +kernel
theorem d_Mod_fits_398 : decode m_Mod_fits.2.1 398 = .ok (.iload_n 1, 1) := by decide +kernel
theorem d_Mod_fits_399 : decode m_Mod_fits.2.1 399 = .ok (.bipush 15, 2) := by decide +kernel
theorem d_Mod_fits_401 : decode m_Mod_fits.2.1 401 = .ok (.invokestatic 106, 3) := by decide +kernel
theorem d_Mod_fits_404 : decode m_Mod_fits.2.1 404 = .ok (.ifCond .eq 25, 3) := by decide +kernel
theorem d_Mod_fits_407 : decode m_Mod_fits.2.1 407 = .ok (.iload_n 2, 1) := by decide +kernel
theorem d_Mod_fits_408 : decode m_Mod_fits.2.1 408 = .ok (.bipush 60, 2) := by decide +kernel
theorem d_Mod_fits_410 : decode m_Mod_fits.2.1 410 = .ok (.invokestatic 106, 3) := by decide +kernel
theorem d_Mod_fits_413 : decode m_Mod_fits.2.1 413 = .ok (.ifCond .eq 16, 3) := by decide +kernel
theorem d_Mod_fits_416 : decode m_Mod_fits.2.1 416 = .ok (.iload_n 3, 1) := by decide +kernel
theorem d_Mod_fits_417 : decode m_Mod_fits.2.1 417 = .ok (.bipush 15, 2) := by decide +kernel
theorem d_Mod_fits_419 : decode m_Mod_fits.2.1 419 = .ok (.invokestatic 106, 3) := by decide +kernel
theorem d_Mod_fits_422 : decode m_Mod_fits.2.1 422 = .ok (.ifCond .eq 7, 3) := by decide +kernel
theorem d_Mod_fits_425 : decode m_Mod_fits.2.1 425 = .ok (.iconst 1, 1) := by decide +kernel
theorem d_Mod_fits_426 : decode m_Mod_fits.2.1 426 = .ok (.goto 4, 3) := by decide +kernel
theorem d_Mod_fits_429 : decode m_Mod_fits.2.1 429 = .ok (.iconst 0, 1) := by decide +kernel
theorem d_Mod_fits_430 : decode m_Mod_fits.2.1 430 = .ok (.ireturn, 1) := by decide +kernel
theorem d_Mod_in_0 : decode m_Mod_in.2.1 0 = .ok (.iload_n 0, 1) := by decide +kernel
theorem d_Mod_in_1 : decode m_Mod_in.2.1 1 = .ok (.ifCond .lt 12, 3) := by decide +kernel
theorem d_Mod_in_4 : decode m_Mod_in.2.1 4 = .ok (.iload_n 0, 1) := by decide +kernel
theorem d_Mod_in_5 : decode m_Mod_in.2.1 5 = .ok (.iload_n 1, 1) := by decide +kernel
theorem d_Mod_in_6 : decode m_Mod_in.2.1 6 = .ok (.if_icmp .gt 7, 3) := by decide +kernel
theorem d_Mod_in_9 : decode m_Mod_in.2.1 9 = .ok (.iconst 1, 1) := by decide +kernel
theorem d_Mod_in_10 : decode m_Mod_in.2.1 10 = .ok (.goto 4, 3) := by decide +kernel
theorem d_Mod_in_13 : decode m_Mod_in.2.1 13 = .ok (.iconst 0, 1) := by decide +kernel
theorem d_Mod_in_14 : decode m_Mod_in.2.1 14 = .ok (.ireturn, 1) := by decide +kernel
theorem d_Mod_put_0 : decode m_Mod_put.2.1 0 = .ok (.iconst 4, 1) := by decide +kernel
theorem d_Mod_put_1 : decode m_Mod_put.2.1 1 = .ok (.aload_n 0, 1) := by decide +kernel
theorem d_Mod_put_2 : decode m_Mod_put.2.1 2 = .ok (.getfield 110, 3) := by decide +kernel
theorem d_Mod_put_5 : decode m_Mod_put.2.1 5 = .ok (.imul, 1) := by decide +kernel
theorem d_Mod_put_6 : decode m_Mod_put.2.1 6 = .ok (.istore 5, 2) := by decide +kernel
theorem d_Mod_put_8 : decode m_Mod_put.2.1 8 = .ok (.aload_n 0, 1) := by decide +kernel
theorem d_Mod_put_9 : decode m_Mod_put.2.1 9 = .ok (.getfield 33, 3) := by decide +kernel
theorem d_Mod_put_12 : decode m_Mod_put.2.1 12 = .ok (.iload 5, 2) := by decide +kernel
theorem d_Mod_put_14 : decode m_Mod_put.2.1 14 = .ok (.iload_n 1, 1) := by decide +kernel
theorem d_Mod_put_15 : decode m_Mod_put.2.1 15 = .ok (.iastore, 1) := by decide +kernel
theorem d_Mod_put_16 : decode m_Mod_put.2.1 16 = .ok (.aload_n 0, 1) := by decide +kernel
theorem d_Mod_put_17 : decode m_Mod_put.2.1 17 = .ok (.getfield 33, 3) := by decide +kernel
theorem d_Mod_put_20 : decode m_Mod_put.2.1 20 = .ok (.iload 5, 2) := by decide +kernel
theorem d_Mod_put_22 : decode m_Mod_put.2.1 22 = .ok (.iconst 1, 1) := by decide +kernel
theorem d_Mod_put_23 : decode m_Mod_put.2.1 23 = .ok (.iadd, 1) := by decide +kernel
theorem d_Mod_put_24 : decode m_Mod_put.2.1 24 = .ok (.iload_n 1, 1) := by decide +kernel
theorem d_Mod_put_25 : decode m_Mod_put.2.1 25 = .ok (.invokestatic 113, 3) := by decide +kernel
theorem d_Mod_put_28 : decode m_Mod_put.2.1 28 = .ok (.ifCond .le 7, 3) := by decide +kernel
theorem d_Mod_put_31 : decode m_Mod_put.2.1 31 = .ok (.iload_n 2, 1) := by decide +kernel
theorem d_Mod_put_32 : decode m_Mod_put.2.1 32 = .ok (.goto 4, 3) := by decide +kernel
theorem d_Mod_put_35 : decode m_Mod_put.2.1 35 = .ok (.iconst 0, 1) := by decide +kernel
theorem d_Mod_put_36 : decode m_Mod_put.2.1 36 = .ok (.iastore, 1) := by decide +kernel
theorem d_Mod_put_37 : decode m_Mod_put.2.1 37 = .ok (.aload_n 0, 1) := by decide +kernel
theorem d_Mod_put_38 : decode m_Mod_put.2.1 38 = .ok (.getfield 33, 3) := by decide +kernel
theorem d_Mod_put_41 : decode m_Mod_put.2.1 41 = .ok (.iload 5, 2) := by decide +kernel
theorem d_Mod_put_43 : decode m_Mod_put.2.1 43 = .ok (.iconst 2, 1) := by decide +kernel
theorem d_Mod_put_44 : decode m_Mod_put.2.1 44 = .ok (.iadd, 1) := by decide +kernel
theorem d_Mod_put_45 : decode m_Mod_put.2.1 45 = .ok (.iload_n 1, 1) := by decide +kernel
theorem d_Mod_put_46 : decode m_Mod_put.2.1 46 = .ok (.invokestatic 113, 3) := by decide +kernel
theorem d_Mod_put_49 : decode m_Mod_put.2.1 49 = .ok (.iconst 1, 1) := by decide +kernel
theorem d_Mod_put_50 : decode m_Mod_put.2.1 50 = .ok (.if_icmp .le 7, 3) := by decide +kernel
theorem d_Mod_put_53 : decode m_Mod_put.2.1 53 = .ok (.iload_n 3, 1) := by decide +kernel
theorem d_Mod_put_54 : decode m_Mod_put.2.1 54 = .ok (.goto 4, 3) := by decide +kernel
theorem d_Mod_put_57 : decode m_Mod_put.2.1 57 = .ok (.iconst 0, 1) := by decide +kernel
theorem d_Mod_put_58 : decode m_Mod_put.2.1 58 = .ok (.iastore, 1) := by decide +kernel
theorem d_Mod_put_59 : decode m_Mod_put.2.1 59 = .ok (.aload_n 0, 1) := by decide +kernel
theorem d_Mod_put_60 : decode m_Mod_put.2.1 60 = .ok (.getfield 33, 3) := by decide +kernel
theorem d_Mod_put_63 : decode m_Mod_put.2.1 63 = .ok (.iload 5, 2) := by decide +kernel
theorem d_Mod_put_65 : decode m_Mod_put.2.1 65 = .ok (.iconst 3, 1) := by decide +kernel
theorem d_Mod_put_66 : decode m_Mod_put.2.1 66 = .ok (.iadd, 1) := by decide +kernel
theorem d_Mod_put_67 : decode m_Mod_put.2.1 67 = .ok (.iload_n 1, 1) := by decide +kernel
theorem d_Mod_put_68 : decode m_Mod_put.2.1 68 = .ok (.invokestatic 113, 3) := by decide +kernel
theorem d_Mod_put_71 : decode m_Mod_put.2.1 71 = .ok (.iconst 2, 1) := by decide +kernel
theorem d_Mod_put_72 : decode m_Mod_put.2.1 72 = .ok (.if_icmp .le 8, 3) := by decide +kernel
theorem d_Mod_put_75 : decode m_Mod_put.2.1 75 = .ok (.iload 4, 2) := by decide +kernel
theorem d_Mod_put_77 : decode m_Mod_put.2.1 77 = .ok (.goto 4, 3) := by decide +kernel
theorem d_Mod_put_80 : decode m_Mod_put.2.1 80 = .ok (.iconst 0, 1) := by decide +kernel
theorem d_Mod_put_81 : decode m_Mod_put.2.1 81 = .ok (.iastore, 1) := by decide +kernel
theorem d_Mod_put_82 : decode m_Mod_put.2.1 82 = .ok (.aload_n 0, 1) := by decide +kernel
theorem d_Mod_put_83 : decode m_Mod_put.2.1 83 = .ok (.dup, 1) := by decide +kernel
theorem d_Mod_put_84 : decode m_Mod_put.2.1 84 = .ok (.getfield 110, 3) := by decide +kernel
theorem d_Mod_put_87 : decode m_Mod_put.2.1 87 = .ok (.iconst 1, 1) := by decide +kernel
theorem d_Mod_put_88 : decode m_Mod_put.2.1 88 = .ok (.iadd, 1) := by decide +kernel
theorem d_Mod_put_89 : decode m_Mod_put.2.1 89 = .ok (.putfield 110, 3) := by decide +kernel
theorem d_Mod_put_92 : decode m_Mod_put.2.1 92 = .ok (.return_, 1) := by decide +kernel
theorem d_Mod_many_0 : decode m_Mod_many.2.1 0 = .ok (.iload_n 0, 1) := by decide +kernel
theorem d_Mod_many_1 : decode m_Mod_many.2.1 1 = .ok (.ifCond .ne 5, 3) := by decide +kernel
theorem d_Mod_many_4 : decode m_Mod_many.2.1 4 = .ok (.iconst 0, 1) := by decide +kernel
theorem d_Mod_many_5 : decode m_Mod_many.2.1 5 = .ok (.ireturn, 1) := by decide +kernel
theorem d_Mod_many_6 : decode m_Mod_many.2.1 6 = .ok (.iload_n 0, 1) := by decide +kernel
theorem d_Mod_many_7 : decode m_Mod_many.2.1 7 = .ok (.bipush 7, 2) := by decide +kernel
theorem d_Mod_many_9 : decode m_Mod_many.2.1 9 = .ok (.if_icmp .eq 15, 3) := by decide +kernel
theorem d_Mod_many_12 : decode m_Mod_many.2.1 12 = .ok (.iload_n 0, 1) := by decide +kernel
theorem d_Mod_many_13 : decode m_Mod_many.2.1 13 = .ok (.bipush 19, 2) := by decide +kernel
theorem d_Mod_many_15 : decode m_Mod_many.2.1 15 = .ok (.if_icmp .eq 9, 3) := by decide +kernel
theorem d_Mod_many_18 : decode m_Mod_many.2.1 18 = .ok (.iload_n 0, 1) := by decide +kernel
theorem d_Mod_many_19 : decode m_Mod_many.2.1 19 = .ok (.bipush 21, 2) := by decide +kernel
theorem d_Mod_many_21 : decode m_Mod_many.2.1 21 = .ok (.if_icmp .ne 5, 3) := by decide +kernel
theorem d_Mod_many_24 : decode m_Mod_many.2.1 24 = .ok (.iconst 1, 1) := by decide +kernel
theorem d_Mod_many_25 : decode m_Mod_many.2.1 25 = .ok (.ireturn, 1) := by decide +kernel
theorem d_Mod_many_26 : decode m_Mod_many.2.1 26 = .ok (.iload_n 0, 1) := by decide +kernel
theorem d_Mod_many_27 : decode m_Mod_many.2.1 27 = .ok (.iconst 1, 1) := by decide +kernel
theorem d_Mod_many_28 : decode m_Mod_many.2.1 28 = .ok (.if_icmp .eq 42, 3) := by decide +kernel
theorem d_Mod_many_31 : decode m_Mod_many.2.1 31 = .ok (.iload_n 0, 1) := by decide +kernel
theorem d_Mod_many_32 : decode m_Mod_many.2.1 32 = .ok (.iconst 2, 1) := by decide +kernel
theorem d_Mod_many_33 : decode m_Mod_many.2.1 33 = .ok (.if_icmp .eq 37, 3) := by decide +kernel
theorem d_Mod_many_36 : decode m_Mod_many.2.1 36 = .ok (.iload_n 0, 1) := by decide +kernel
theorem d_Mod_many_37 : decode m_Mod_many.2.1 37 = .ok (.iconst 3, 1) := by decide +kernel
theorem d_Mod_many_38 : decode m_Mod_many.2.1 38 = .ok (.if_icmp .eq 32, 3) := by decide +kernel
theorem d_Mod_many_41 : decode m_Mod_many.2.1 41 = .ok (.iload_n 0, 1) := by decide +kernel
theorem d_Mod_many_42 : decode m_Mod_many.2.1 42 = .ok (.iconst 5, 1) := by decide +kernel
theorem d_Mod_many_43 : decode m_Mod_many.2.1 43 = .ok (.if_icmp .eq 27, 3) := by decide +kernel
theorem d_Mod_many_46 : decode m_Mod_many.2.1 46 = .ok (.iload_n 0, 1) := by decide +kernel
theorem d_Mod_many_47 : decode m_Mod_many.2.1 47 = .ok (.bipush 6, 2) := by decide +kernel
theorem d_Mod_many_49 : decode m_Mod_many.2.1 49 = .ok (.if_icmp .eq 21, 3) := by decide +kernel
theorem d_Mod_many_52 : decode m_Mod_many.2.1 52 = .ok (.iload_n 0, 1) := by decide +kernel
theorem d_Mod_many_53 : decode m_Mod_many.2.1 53 = .ok (.bipush 15, 2) := by decide +kernel
theorem d_Mod_many_55 : decode m_Mod_many.2.1 55 = .ok (.if_icmp .eq 15, 3) := by decide +kernel
theorem d_Mod_many_58 : decode m_Mod_many.2.1 58 = .ok (.iload_n 0, 1) := by decide +kernel
theorem d_Mod_many_59 : decode m_Mod_many.2.1 59 = .ok (.bipush 16, 2) := by decide +kernel
theorem d_Mod_many_61 : decode m_Mod_many.2.1 61 = .ok (.if_icmp .eq 9, 3) := by decide +kernel
theorem d_Mod_many_64 : decode m_Mod_many.2.1 64 = .ok (.iload_n 0, 1) := by decide +kernel
theorem d_Mod_many_65 : decode m_Mod_many.2.1 65 = .ok (.bipush 18, 2) := by decide +kernel
theorem d_Mod_many_67 : decode m_Mod_many.2.1 67 = .ok (.if_icmp .ne 7, 3) := by decide +kernel
theorem d_Mod_many_70 : decode m_Mod_many.2.1 70 = .ok (.iconst 2, 1) := by decide +kernel
theorem d_Mod_many_71 : decode m_Mod_many.2.1 71 = .ok (.goto 4, 3) := by decide +kernel
theorem d_Mod_many_74 : decode m_Mod_many.2.1 74 = .ok (.iconst 3, 1) := by decide +kernel
theorem d_Mod_many_75 : decode m_Mod_many.2.1 75 = .ok (.ireturn, 1) := by decide +kernel
theorem d_Mod_wipe_0 : decode m_Mod_wipe.2.1 0 = .ok (.aload_n 0, 1) := by decide +kernel
theorem d_Mod_wipe_1 : decode m_Mod_wipe.2.1 1 = .ok (.iconst 0, 1) := by decide +kernel
theorem d_Mod_wipe_2 : decode m_Mod_wipe.2.1 2 = .ok (.putfield 73, 3) := by decide +kernel
theorem d_Mod_wipe_5 : decode m_Mod_wipe.2.1 5 = .ok (.aload_n 0, 1) := by decide +kernel
theorem d_Mod_wipe_6 : decode m_Mod_wipe.2.1 6 = .ok (.iconst 0, 1) := by decide +kernel
theorem d_Mod_wipe_7 : decode m_Mod_wipe.2.1 7 = .ok (.putfield 110, 3) := by decide +kernel
theorem d_Mod_wipe_10 : decode m_Mod_wipe.2.1 10 = .ok (.return_, 1) := by decide +kernel
theorem d_Mod_code_0 : decode m_Mod_code.2.1 0 = .ok (.aload_n 0, 1) := by decide +kernel
theorem d_Mod_code_1 : decode m_Mod_code.2.1 1 = .ok (.iload_n 1, 1) := by decide +kernel
theorem d_Mod_code_2 : decode m_Mod_code.2.1 2 = .ok (.ifCond .lt 20, 3) := by decide +kernel
theorem d_Mod_code_5 : decode m_Mod_code.2.1 5 = .ok (.iload_n 1, 1) := by decide +kernel
theorem d_Mod_code_6 : decode m_Mod_code.2.1 6 = .ok (.aload_n 0, 1) := by decide +kernel
theorem d_Mod_code_7 : decode m_Mod_code.2.1 7 = .ok (.getfield 110, 3) := by decide +kernel
theorem d_Mod_code_10 : decode m_Mod_code.2.1 10 = .ok (.if_icmp .ge 12, 3) := by decide +kernel
theorem d_Mod_code_13 : decode m_Mod_code.2.1 13 = .ok (.iload_n 2, 1) := by decide +kernel
theorem d_Mod_code_14 : decode m_Mod_code.2.1 14 = .ok (.ifCond .lt 8, 3) := by decide +kernel
theorem d_Mod_code_17 : decode m_Mod_code.2.1 17 = .ok (.iload_n 2, 1) := by decide +kernel
theorem d_Mod_code_18 : decode m_Mod_code.2.1 18 = .ok (.iconst 3, 1) := by decide +kernel
theorem d_Mod_code_19 : decode m_Mod_code.2.1 19 = .ok (.if_icmp .le 7, 3) := by decide +kernel
theorem d_Mod_code_22 : decode m_Mod_code.2.1 22 = .ok (.iconst 1, 1) := by decide +kernel
theorem d_Mod_code_23 : decode m_Mod_code.2.1 23 = .ok (.goto 4, 3) := by decide +kernel
theorem d_Mod_code_26 : decode m_Mod_code.2.1 26 = .ok (.iconst 0, 1) := by decide +kernel
theorem d_Mod_code_27 : decode m_Mod_code.2.1 27 = .ok (.putfield 73, 3) := by decide +kernel
theorem d_Mod_code_30 : decode m_Mod_code.2.1 30 = .ok (.aload_n 0, 1) := by decide +kernel
theorem d_Mod_code_31 : decode m_Mod_code.2.1 31 = .ok (.getfield 73, 3) := by decide +kernel
theorem d_Mod_code_34 : decode m_Mod_code.2.1 34 = .ok (.ifCond .le 7, 3) := by decide +kernel
theorem d_Mod_code_37 : decode m_Mod_code.2.1 37 = .ok (.iconst 0, 1) := by decide +kernel
theorem d_Mod_code_38 : decode m_Mod_code.2.1 38 = .ok (.goto 13, 3) := by decide +kernel
theorem d_Mod_code_41 : decode m_Mod_code.2.1 41 = .ok (.aload_n 0, 1) := by decide +kernel
theorem d_Mod_code_42 : decode m_Mod_code.2.1 42 = .ok (.getfield 33, 3) := by decide +kernel
theorem d_Mod_code_45 : decode m_Mod_code.2.1 45 = .ok (.iconst 4, 1) := by decide +kernel
theorem d_Mod_code_46 : decode m_Mod_code.2.1 46 = .ok (.iload_n 1, 1) := by decide +kernel
theorem d_Mod_code_47 : decode m_Mod_code.2.1 47 = .ok (.imul, 1) := by decide +kernel
theorem d_Mod_code_48 : decode m_Mod_code.2.1 48 = .ok (.iload_n 2, 1) := by decide +kernel
theorem d_Mod_code_49 : decode m_Mod_code.2.1 49 = .ok (.iadd, 1) := by decide +kernel
theorem d_Mod_code_50 : decode m_Mod_code.2.1 50 = .ok (.iaload, 1) := by decide +kernel
theorem d_Mod_code_51 : decode m_Mod_code.2.1 51 = .ok (.ireturn, 1) := by decide +kernel
theorem d_Mod_run_0 : decode m_Mod_run.2.1 0 = .ok (.aload_n 0, 1) := by decide +kernel
theorem d_Mod_run_1 : decode m_Mod_run.2.1 1 = .ok (.iload_n 1, 1) := by decide +kernel
theorem d_Mod_run_2 : decode m_Mod_run.2.1 2 = .ok (.ifCond .lt 17, 3) := by decide +kernel
theorem d_Mod_run_5 : decode m_Mod_run.2.1 5 = .ok (.iload_n 1, 1) := by decide +kernel
theorem d_Mod_run_6 : decode m_Mod_run.2.1 6 = .ok (.sipush 4000, 3) := by decide +kernel
theorem d_Mod_run_9 : decode m_Mod_run.2.1 9 = .ok (.if_icmp .gt 10, 3) := by decide +kernel
theorem d_Mod_run_12 : decode m_Mod_run.2.1 12 = .ok (.aload_n 0, 1) := by decide +kernel
theorem d_Mod_run_13 : decode m_Mod_run.2.1 13 = .ok (.invokevirtual 164, 3) := by decide +kernel
theorem d_Mod_run_16 : decode m_Mod_run.2.1 16 = .ok (.ifCond .ne 7, 3) := by decide +kernel
theorem d_Mod_run_19 : decode m_Mod_run.2.1 19 = .ok (.iconst 1, 1) := by decide +kernel
theorem d_Mod_run_20 : decode m_Mod_run.2.1 20 = .ok (.goto 4, 3) := by decide +kernel
theorem d_Mod_run_23 : decode m_Mod_run.2.1 23 = .ok (.iconst 0, 1) := by decide +kernel
theorem d_Mod_run_24 : decode m_Mod_run.2.1 24 = .ok (.putfield 73, 3) := by decide +kernel
theorem d_Mod_run_27 : decode m_Mod_run.2.1 27 = .ok (.aload_n 0, 1) := by decide +kernel
theorem d_Mod_run_28 : decode m_Mod_run.2.1 28 = .ok (.getfield 73, 3) := by decide +kernel
theorem d_Mod_run_31 : decode m_Mod_run.2.1 31 = .ok (.ifCond .le 5, 3) := by decide +kernel
theorem d_Mod_run_34 : decode m_Mod_run.2.1 34 = .ok (.iconst 0, 1) := by decide +kernel
theorem d_Mod_run_35 : decode m_Mod_run.2.1 35 = .ok (.ireturn, 1) := by decide +kernel
theorem d_Mod_run_36 : decode m_Mod_run.2.1 36 = .ok (.iconst 0, 1) := by decide +kernel
theorem d_Mod_run_37 : decode m_Mod_run.2.1 37 = .ok (.istore_n 2, 1) := by decide +kernel
theorem d_Mod_run_38 : decode m_Mod_run.2.1 38 = .ok (.iload_n 2, 1) := by decide +kernel
theorem d_Mod_run_39 : decode m_Mod_run.2.1 39 = .ok (.bipush 16, 2) := by decide +kernel
theorem d_Mod_run_41 : decode m_Mod_run.2.1 41 = .ok (.if_icmp .ge 16, 3) := by decide +kernel
theorem d_Mod_run_44 : decode m_Mod_run.2.1 44 = .ok (.aload_n 0, 1) := by decide +kernel
theorem d_Mod_run_45 : decode m_Mod_run.2.1 45 = .ok (.iload_n 2, 1) := by decide +kernel
theorem d_Mod_run_46 : decode m_Mod_run.2.1 46 = .ok (.iconst 0, 1) := by decide +kernel
theorem d_Mod_run_47 : decode m_Mod_run.2.1 47 = .ok (.lconst 0, 1) := by decide +kernel
theorem d_Mod_run_48 : decode m_Mod_run.2.1 48 = .ok (.invokevirtual 138, 3) := by decide +kernel
theorem d_Mod_run_51 : decode m_Mod_run.2.1 51 = .ok (.iinc 2 1, 3) := by decide +kernel
theorem d_Mod_run_54 : decode m_Mod_run.2.1 54 = .ok (.goto (-16), 3) := by decide +kernel
theorem d_Mod_run_57 : decode m_Mod_run.2.1 57 = .ok (.iconst 0, 1) := by decide +kernel
theorem d_Mod_run_58 : decode m_Mod_run.2.1 58 = .ok (.istore_n 2, 1) := by decide +kernel
theorem d_Mod_run_59 : decode m_Mod_run.2.1 59 = .ok (.iload_n 2, 1) := by decide +kernel
theorem d_Mod_run_60 : decode m_Mod_run.2.1 60 = .ok (.iconst 3, 1) := by decide +kernel
theorem d_Mod_run_61 : decode m_Mod_run.2.1 61 = .ok (.if_icmp .ge 23, 3) := by decide +kernel
theorem d_Mod_run_64 : decode m_Mod_run.2.1 64 = .ok (.aload_n 0, 1) := by decide +kernel
theorem d_Mod_run_65 : decode m_Mod_run.2.1 65 = .ok (.getfield 42, 3) := by decide +kernel
theorem d_Mod_run_68 : decode m_Mod_run.2.1 68 = .ok (.iload_n 2, 1) := by decide +kernel
theorem d_Mod_run_69 : decode m_Mod_run.2.1 69 = .ok (.iconst (-1), 1) := by decide +kernel
theorem d_Mod_run_70 : decode m_Mod_run.2.1 70 = .ok (.iastore, 1) := by decide +kernel
theorem d_Mod_run_71 : decode m_Mod_run.2.1 71 = .ok (.aload_n 0, 1) := by decide +kernel
theorem d_Mod_run_72 : decode m_Mod_run.2.1 72 = .ok (.getfield 45, 3) := by decide +kernel
theorem d_Mod_run_75 : decode m_Mod_run.2.1 75 = .ok (.iload_n 2, 1) := by decide +kernel
theorem d_Mod_run_76 : decode m_Mod_run.2.1 76 = .ok (.iconst 0, 1) := by decide +kernel
theorem d_Mod_run_77 : decode m_Mod_run.2.1 77 = .ok (.bastore, 1) := by decide +kernel
theorem d_Mod_run_78 : decode m_Mod_run.2.1 78 = .ok (.iinc 2 1, 3) := by decide +kernel
theorem d_Mod_run_81 : decode m_Mod_run.2.1 81 = .ok (.goto (-22), 3) := by decide +kernel
theorem d_Mod_run_84 : decode m_Mod_run.2.1 84 = .ok (.aload_n 0, 1) := by decide +kernel
theorem d_Mod_run_85 : decode m_Mod_run.2.1 85 = .ok (.iconst 0, 1) := by decide +kernel
theorem d_Mod_run_86 : decode m_Mod_run.2.1 86 = .ok (.putfield 142, 3) := by decide +kernel
theorem d_Mod_run_89 : decode m_Mod_run.2.1 89 = .ok (.aload_n 0, 1) := by decide +kernel
theorem d_Mod_run_90 : decode m_Mod_run.2.1 90 = .ok (.iconst 0, 1) := by decide +kernel
theorem d_Mod_run_91 : decode m_Mod_run.2.1 91 = .ok (.putfield 155, 3) := by decide +kernel
theorem d_Mod_run_94 : decode m_Mod_run.2.1 94 = .ok (.aload_n 0, 1) := by decide +kernel
theorem d_Mod_run_95 : decode m_Mod_run.2.1 95 = .ok (.iconst 0, 1) := by decide +kernel
theorem d_Mod_run_96 : decode m_Mod_run.2.1 96 = .ok (.putfield 149, 3) := by decide +kernel
theorem d_Mod_run_99 : decode m_Mod_run.2.1 99 = .ok (.iconst 0, 1) := by decide +kernel
theorem d_Mod_run_100 : decode m_Mod_run.2.1 100 = .ok (.istore_n 2, 1) := by decide +kernel
theorem d_Mod_run_101 : decode m_Mod_run.2.1 101 = .ok (.iconst 1, 1) := by decide +kernel
theorem d_Mod_run_102 : decode m_Mod_run.2.1 102 = .ok (.istore_n 3, 1) := by decide +kernel
theorem d_Mod_run_103 : decode m_Mod_run.2.1 103 = .ok (.iload_n 3, 1) := by decide +kernel
theorem d_Mod_run_104 : decode m_Mod_run.2.1 104 = .ok (.ifCond .eq 40, 3) := by decide +kernel
theorem d_Mod_run_107 : decode m_Mod_run.2.1 107 = .ok (.aload_n 0, 1) := by decide +kernel
theorem d_Mod_run_108 : decode m_Mod_run.2.1 108 = .ok (.getfield 149, 3) := by decide +kernel
theorem d_Mod_run_111 : decode m_Mod_run.2.1 111 = .ok (.aload_n 0, 1) := by decide +kernel
theorem d_Mod_run_112 : decode m_Mod_run.2.1 112 = .ok (.getfield 110, 3) := by decide +kernel
theorem d_Mod_run_115 : decode m_Mod_run.2.1 115 = .ok (.if_icmp .ge 29, 3) := by decide +kernel
theorem d_Mod_run_118 : decode m_Mod_run.2.1 118 = .ok (.iload_n 2, 1) := by decide +kernel
theorem d_Mod_run_119 : decode m_Mod_run.2.1 119 = .ok (.iload_n 1, 1) := by decide +kernel
theorem d_Mod_run_120 : decode m_Mod_run.2.1 120 = .ok (.if_icmp .ne 13, 3) := by decide +kernel
theorem d_Mod_run_123 : decode m_Mod_run.2.1 123 = .ok (.aload_n 0, 1) := by decide +kernel
theorem d_Mod_run_124 : decode m_Mod_run.2.1 124 = .ok (.iconst 1, 1) := by decide +kernel
theorem d_Mod_run_125 : decode m_Mod_run.2.1 125 = .ok (.putfield 155, 3) := by decide +kernel
theorem d_Mod_run_128 : decode m_Mod_run.2.1 128 = .ok (.aload_n 0, 1) := by decide +kernel
theorem d_Mod_run_129 : decode m_Mod_run.2.1 129 = .ok (.getfield 155, 3) := by decide +kernel
theorem d_Mod_run_132 : decode m_Mod_run.2.1 132 = .ok (.ireturn, 1) := by decide +kernel
theorem d_Mod_run_133 : decode m_Mod_run.2.1 133 = .ok (.aload_n 0, 1) := by decide +kernel
theorem d_Mod_run_134 : decode m_Mod_run.2.1 134 = .ok (.invokevirtual 168, 3) := by decide +kernel
theorem d_Mod_run_137 : decode m_Mod_run.2.1 137 = .ok (.istore_n 3, 1) := by decide +kernel
theorem d_Mod_run_138 : decode m_Mod_run.2.1 138 = .ok (.iinc 2 1, 3) := by decide +kernel
theorem d_Mod_run_141 : decode m_Mod_run.2.1 141 = .ok (.goto (-38), 3) := by decide +kernel
theorem d_Mod_run_144 : decode m_Mod_run.2.1 144 = .ok (.aload_n 0, 1) := by decide +kernel
theorem d_Mod_run_145 : decode m_Mod_run.2.1 145 = .ok (.getfield 155, 3) := by decide +kernel
theorem d_Mod_run_148 : decode m_Mod_run.2.1 148 = .ok (.ireturn, 1) := by decide +kernel
theorem d_Mod_sound_0 : decode m_Mod_sound.2.1 0 = .ok (.iconst 1, 1) := by decide +kernel
theorem d_Mod_sound_1 : decode m_Mod_sound.2.1 1 = .ok (.istore_n 1, 1) := by decide +kernel
theorem d_Mod_sound_2 : decode m_Mod_sound.2.1 2 = .ok (.iconst 0, 1) := by decide +kernel
theorem d_Mod_sound_3 : decode m_Mod_sound.2.1 3 = .ok (.istore_n 2, 1) := by decide +kernel
theorem d_Mod_sound_4 : decode m_Mod_sound.2.1 4 = .ok (.iload_n 2, 1) := by decide +kernel
theorem d_Mod_sound_5 : decode m_Mod_sound.2.1 5 = .ok (.aload_n 0, 1) := by decide +kernel
theorem d_Mod_sound_6 : decode m_Mod_sound.2.1 6 = .ok (.getfield 110, 3) := by decide +kernel
theorem d_Mod_sound_9 : decode m_Mod_sound.2.1 9 = .ok (.if_icmp .ge 87, 3) := by decide +kernel
theorem d_Mod_sound_12 : decode m_Mod_sound.2.1 12 = .ok (.aload_n 0, 1) := by decide +kernel
theorem d_Mod_sound_13 : decode m_Mod_sound.2.1 13 = .ok (.getfield 33, 3) := by decide +kernel
theorem d_Mod_sound_16 : decode m_Mod_sound.2.1 16 = .ok (.iconst 4, 1) := by decide +kernel
theorem d_Mod_sound_17 : decode m_Mod_sound.2.1 17 = .ok (.iload_n 2, 1) := by decide +kernel
theorem d_Mod_sound_18 : decode m_Mod_sound.2.1 18 = .ok (.imul, 1) := by decide +kernel
theorem d_Mod_sound_19 : decode m_Mod_sound.2.1 19 = .ok (.iaload, 1) := by decide +kernel
theorem d_Mod_sound_20 : decode m_Mod_sound.2.1 20 = .ok (.istore_n 3, 1) := by decide +kernel
theorem d_Mod_sound_21 : decode m_Mod_sound.2.1 21 = .ok (.iload_n 1, 1) := by decide +kernel
theorem d_Mod_sound_22 : decode m_Mod_sound.2.1 22 = .ok (.ifCond .eq 29, 3) := by decide +kernel
theorem d_Mod_sound_25 : decode m_Mod_sound.2.1 25 = .ok (.iload_n 3, 1) := by decide +kernel
theorem d_Mod_sound_26 : decode m_Mod_sound.2.1 26 = .ok (.iconst 1, 1) := by decide +kernel
theorem d_Mod_sound_27 : decode m_Mod_sound.2.1 27 = .ok (.if_icmp .ne 20, 3) := by decide +kernel
theorem d_Mod_sound_30 : decode m_Mod_sound.2.1 30 = .ok (.aload_n 0, 1) := by decide +kernel
theorem d_Mod_sound_31 : decode m_Mod_sound.2.1 31 = .ok (.aload_n 0, 1) := by decide +kernel
theorem d_Mod_sound_32 : decode m_Mod_sound.2.1 32 = .ok (.getfield 33, 3) := by decide +kernel
theorem d_Mod_sound_35 : decode m_Mod_sound.2.1 35 = .ok (.iconst 4, 1) := by decide +kernel
theorem d_Mod_sound_36 : decode m_Mod_sound.2.1 36 = .ok (.iload_n 2, 1) := by decide +kernel
theorem d_Mod_sound_37 : decode m_Mod_sound.2.1 37 = .ok (.imul, 1) := by decide +kernel
theorem d_Mod_sound_38 : decode m_Mod_sound.2.1 38 = .ok (.iconst 2, 1) := by decide +kernel
theorem d_Mod_sound_39 : decode m_Mod_sound.2.1 39 = .ok (.iadd, 1) := by decide +kernel
theorem d_Mod_sound_40 : decode m_Mod_sound.2.1 40 = .ok (.iaload, 1) := by decide +kernel
theorem d_Mod_sound_41 : decode m_Mod_sound.2.1 41 = .ok (.invokevirtual 82, 3) := by decide +kernel
theorem d_Mod_sound_44 : decode m_Mod_sound.2.1 44 = .ok (.ifCond .eq 7, 3) := by decide +kernel
theorem d_Mod_sound_47 : decode m_Mod_sound.2.1 47 = .ok (.iconst 1, 1) := by decide +kernel
theorem d_Mod_sound_48 : decode m_Mod_sound.2.1 48 = .ok (.goto 4, 3) := by decide +kernel
theorem d_Mod_sound_51 : decode m_Mod_sound.2.1 51 = .ok (.iconst 0, 1) := by decide +kernel
theorem d_Mod_sound_52 : decode m_Mod_sound.2.1 52 = .ok (.istore_n 1, 1) := by decide +kernel
theorem d_Mod_sound_53 : decode m_Mod_sound.2.1 53 = .ok (.iload_n 1, 1) := by decide +kernel
theorem d_Mod_sound_54 : decode m_Mod_sound.2.1 54 = .ok (.ifCond .eq 34, 3) := by decide +kernel
theorem d_Mod_sound_57 : decode m_Mod_sound.2.1 57 = .ok (.iload_n 3, 1) := by decide +kernel
theorem d_Mod_sound_58 : decode m_Mod_sound.2.1 58 = .ok (.invokestatic 125, 3) := by decide +kernel
theorem d_Mod_sound_61 : decode m_Mod_sound.2.1 61 = .ok (.ifCond .eq 23, 3) := by decide +kernel
theorem d_Mod_sound_64 : decode m_Mod_sound.2.1 64 = .ok (.aload_n 0, 1) := by decide +kernel
theorem d_Mod_sound_65 : decode m_Mod_sound.2.1 65 = .ok (.getfield 33, 3) := by decide +kernel
theorem d_Mod_sound_68 : decode m_Mod_sound.2.1 68 = .ok (.iconst 4, 1) := by decide +kernel
theorem d_Mod_sound_69 : decode m_Mod_sound.2.1 69 = .ok (.iload_n 2, 1) := by decide +kernel
theorem d_Mod_sound_70 : decode m_Mod_sound.2.1 70 = .ok (.imul, 1) := by decide +kernel
theorem d_Mod_sound_71 : decode m_Mod_sound.2.1 71 = .ok (.iload_n 3, 1) := by decide +kernel
theorem d_Mod_sound_72 : decode m_Mod_sound.2.1 72 = .ok (.invokestatic 125, 3) := by decide +kernel
theorem d_Mod_sound_75 : decode m_Mod_sound.2.1 75 = .ok (.iadd, 1) := by decide +kernel
theorem d_Mod_sound_76 : decode m_Mod_sound.2.1 76 = .ok (.iaload, 1) := by decide +kernel
theorem d_Mod_sound_77 : decode m_Mod_sound.2.1 77 = .ok (.aload_n 0, 1) := by decide +kernel
theorem d_Mod_sound_78 : decode m_Mod_sound.2.1 78 = .ok (.getfield 110, 3) := by decide +kernel
theorem d_Mod_sound_81 : decode m_Mod_sound.2.1 81 = .ok (.if_icmp .gt 7, 3) := by decide +kernel
theorem d_Mod_sound_84 : decode m_Mod_sound.2.1 84 = .ok (.iconst 1, 1) := by decide +kernel
theorem d_Mod_sound_85 : decode m_Mod_sound.2.1 85 = .ok (.goto 4, 3) := by decide +kernel
theorem d_Mod_sound_88 : decode m_Mod_sound.2.1 88 = .ok (.iconst 0, 1) := by decide +kernel
theorem d_Mod_sound_89 : decode m_Mod_sound.2.1 89 = .ok (.istore_n 1, 1) := by decide +kernel
theorem d_Mod_sound_90 : decode m_Mod_sound.2.1 90 = .ok (.iinc 2 1, 3) := by decide +kernel
theorem d_Mod_sound_93 : decode m_Mod_sound.2.1 93 = .ok (.goto (-89), 3) := by decide +kernel
theorem d_Mod_sound_96 : decode m_Mod_sound.2.1 96 = .ok (.iload_n 1, 1) := by decide +kernel
theorem d_Mod_sound_97 : decode m_Mod_sound.2.1 97 = .ok (.ireturn, 1) := by decide +kernel
theorem d_Mod_goal_0 : decode m_Mod_goal.2.1 0 = .ok (.iload_n 0, 1) := by decide +kernel
theorem d_Mod_goal_1 : decode m_Mod_goal.2.1 1 = .ok (.bipush 19, 2) := by decide +kernel
theorem d_Mod_goal_3 : decode m_Mod_goal.2.1 3 = .ok (.if_icmp .ne 5, 3) := by decide +kernel
theorem d_Mod_goal_6 : decode m_Mod_goal.2.1 6 = .ok (.iconst 1, 1) := by decide +kernel
theorem d_Mod_goal_7 : decode m_Mod_goal.2.1 7 = .ok (.ireturn, 1) := by decide +kernel
theorem d_Mod_goal_8 : decode m_Mod_goal.2.1 8 = .ok (.iload_n 0, 1) := by decide +kernel
theorem d_Mod_goal_9 : decode m_Mod_goal.2.1 9 = .ok (.iconst 2, 1) := by decide +kernel
theorem d_Mod_goal_10 : decode m_Mod_goal.2.1 10 = .ok (.if_icmp .eq 32, 3) := by decide +kernel
theorem d_Mod_goal_13 : decode m_Mod_goal.2.1 13 = .ok (.iload_n 0, 1) := by decide +kernel
theorem d_Mod_goal_14 : decode m_Mod_goal.2.1 14 = .ok (.iconst 3, 1) := by decide +kernel
theorem d_Mod_goal_15 : decode m_Mod_goal.2.1 15 = .ok (.if_icmp .eq 27, 3) := by decide +kernel
theorem d_Mod_goal_18 : decode m_Mod_goal.2.1 18 = .ok (.iload_n 0, 1) := by decide +kernel
theorem d_Mod_goal_19 : decode m_Mod_goal.2.1 19 = .ok (.bipush 8, 2) := by decide +kernel
theorem d_Mod_goal_21 : decode m_Mod_goal.2.1 21 = .ok (.if_icmp .eq 21, 3) := by decide +kernel
theorem d_Mod_goal_24 : decode m_Mod_goal.2.1 24 = .ok (.iload_n 0, 1) := by decide +kernel
theorem d_Mod_goal_25 : decode m_Mod_goal.2.1 25 = .ok (.bipush 9, 2) := by decide +kernel
theorem d_Mod_goal_27 : decode m_Mod_goal.2.1 27 = .ok (.if_icmp .lt 9, 3) := by decide +kernel
theorem d_Mod_goal_30 : decode m_Mod_goal.2.1 30 = .ok (.iload_n 0, 1) := by decide +kernel
theorem d_Mod_goal_31 : decode m_Mod_goal.2.1 31 = .ok (.bipush 16, 2) := by decide +kernel
theorem d_Mod_goal_33 : decode m_Mod_goal.2.1 33 = .ok (.if_icmp .le 9, 3) := by decide +kernel
theorem d_Mod_goal_36 : decode m_Mod_goal.2.1 36 = .ok (.iload_n 0, 1) := by decide +kernel
theorem d_Mod_goal_37 : decode m_Mod_goal.2.1 37 = .ok (.bipush 20, 2) := by decide +kernel
theorem d_Mod_goal_39 : decode m_Mod_goal.2.1 39 = .ok (.if_icmp .ne 7, 3) := by decide +kernel
theorem d_Mod_goal_42 : decode m_Mod_goal.2.1 42 = .ok (.iconst 1, 1) := by decide +kernel
theorem d_Mod_goal_43 : decode m_Mod_goal.2.1 43 = .ok (.goto 4, 3) := by decide +kernel
theorem d_Mod_goal_46 : decode m_Mod_goal.2.1 46 = .ok (.iconst 0, 1) := by decide +kernel
theorem d_Mod_goal_47 : decode m_Mod_goal.2.1 47 = .ok (.istore_n 1, 1) := by decide +kernel
theorem d_Mod_goal_48 : decode m_Mod_goal.2.1 48 = .ok (.iload_n 1, 1) := by decide +kernel
theorem d_Mod_goal_49 : decode m_Mod_goal.2.1 49 = .ok (.ifCond .eq 7, 3) := by decide +kernel
theorem d_Mod_goal_52 : decode m_Mod_goal.2.1 52 = .ok (.iconst 2, 1) := by decide +kernel
theorem d_Mod_goal_53 : decode m_Mod_goal.2.1 53 = .ok (.goto 4, 3) := by decide +kernel
theorem d_Mod_goal_56 : decode m_Mod_goal.2.1 56 = .ok (.iconst 0, 1) := by decide +kernel
theorem d_Mod_goal_57 : decode m_Mod_goal.2.1 57 = .ok (.ireturn, 1) := by decide +kernel
theorem d_Mod_keep_0 : decode m_Mod_keep.2.1 0 = .ok (.aload_n 0, 1) := by decide +kernel
theorem d_Mod_keep_1 : decode m_Mod_keep.2.1 1 = .ok (.getfield 39, 3) := by decide +kernel
theorem d_Mod_keep_4 : decode m_Mod_keep.2.1 4 = .ok (.iload_n 1, 1) := by decide +kernel
theorem d_Mod_keep_5 : decode m_Mod_keep.2.1 5 = .ok (.iload_n 2, 1) := by decide +kernel
theorem d_Mod_keep_6 : decode m_Mod_keep.2.1 6 = .ok (.bastore, 1) := by decide +kernel
theorem d_Mod_keep_7 : decode m_Mod_keep.2.1 7 = .ok (.aload_n 0, 1) := by decide +kernel
theorem d_Mod_keep_8 : decode m_Mod_keep.2.1 8 = .ok (.getfield 36, 3) := by decide +kernel
theorem d_Mod_keep_11 : decode m_Mod_keep.2.1 11 = .ok (.iload_n 1, 1) := by decide +kernel
theorem d_Mod_keep_12 : decode m_Mod_keep.2.1 12 = .ok (.iload_n 2, 1) := by decide +kernel
theorem d_Mod_keep_13 : decode m_Mod_keep.2.1 13 = .ok (.ifCond .eq 7, 3) := by decide +kernel
theorem d_Mod_keep_16 : decode m_Mod_keep.2.1 16 = .ok (.lload_n 3, 1) := by decide +kernel
theorem d_Mod_keep_17 : decode m_Mod_keep.2.1 17 = .ok (.goto 4, 3) := by decide +kernel
theorem d_Mod_keep_20 : decode m_Mod_keep.2.1 20 = .ok (.lconst 0, 1) := by decide +kernel
theorem d_Mod_keep_21 : decode m_Mod_keep.2.1 21 = .ok (.lastore, 1) := by decide +kernel
theorem d_Mod_keep_22 : decode m_Mod_keep.2.1 22 = .ok (.return_, 1) := by decide +kernel
theorem d_Mod_step_0 : decode m_Mod_step.2.1 0 = .ok (.aload_n 0, 1) := by decide +kernel
theorem d_Mod_step_1 : decode m_Mod_step.2.1 1 = .ok (.getfield 33, 3) := by decide +kernel
theorem d_Mod_step_4 : decode m_Mod_step.2.1 4 = .ok (.iconst 4, 1) := by decide +kernel
theorem d_Mod_step_5 : decode m_Mod_step.2.1 5 = .ok (.aload_n 0, 1) := by decide +kernel
theorem d_Mod_step_6 : decode m_Mod_step.2.1 6 = .ok (.getfield 149, 3) := by decide +kernel
theorem d_Mod_step_9 : decode m_Mod_step.2.1 9 = .ok (.imul, 1) := by decide +kernel
theorem d_Mod_step_10 : decode m_Mod_step.2.1 10 = .ok (.iaload, 1) := by decide +kernel
theorem d_Mod_step_11 : decode m_Mod_step.2.1 11 = .ok (.istore_n 1, 1) := by decide +kernel
theorem d_Mod_step_12 : decode m_Mod_step.2.1 12 = .ok (.aload_n 0, 1) := by decide +kernel
theorem d_Mod_step_13 : decode m_Mod_step.2.1 13 = .ok (.getfield 33, 3) := by decide +kernel
theorem d_Mod_step_16 : decode m_Mod_step.2.1 16 = .ok (.iconst 4, 1) := by decide +kernel
theorem d_Mod_step_17 : decode m_Mod_step.2.1 17 = .ok (.aload_n 0, 1) := by decide +kernel
theorem d_Mod_step_18 : decode m_Mod_step.2.1 18 = .ok (.getfield 149, 3) := by decide +kernel
theorem d_Mod_step_21 : decode m_Mod_step.2.1 21 = .ok (.imul, 1) := by decide +kernel
theorem d_Mod_step_22 : decode m_Mod_step.2.1 22 = .ok (.iconst 1, 1) := by decide +kernel
theorem d_Mod_step_23 : decode m_Mod_step.2.1 23 = .ok (.iadd, 1) := by decide +kernel
theorem d_Mod_step_24 : decode m_Mod_step.2.1 24 = .ok (.iaload, 1) := by decide +kernel
theorem d_Mod_step_25 : decode m_Mod_step.2.1 25 = .ok (.istore_n 2, 1) := by decide +kernel
theorem d_Mod_step_26 : decode m_Mod_step.2.1 26 = .ok (.aload_n 0, 1) := by decide +kernel
theorem d_Mod_step_27 : decode m_Mod_step.2.1 27 = .ok (.getfield 33, 3) := by decide +kernel
theorem d_Mod_step_30 : decode m_Mod_step.2.1 30 = .ok (.iconst 4, 1) := by decide +kernel
theorem d_Mod_step_31 : decode m_Mod_step.2.1 31 = .ok (.aload_n 0, 1) := by decide +kernel
theorem d_Mod_step_32 : decode m_Mod_step.2.1 32 = .ok (.getfield 149, 3) := by decide +kernel
theorem d_Mod_step_35 : decode m_Mod_step.2.1 35 = .ok (.imul, 1) := by decide +kernel
theorem d_Mod_step_36 : decode m_Mod_step.2.1 36 = .ok (.iconst 2, 1) := by decide +kernel
theorem d_Mod_step_37 : decode m_Mod_step.2.1 37 = .ok (.iadd, 1) := by decide +kernel
theorem d_Mod_step_38 : decode m_Mod_step.2.1 38 = .ok (.iaload, 1) := by decide +kernel
theorem d_Mod_step_39 : decode m_Mod_step.2.1 39 = .ok (.istore_n 3, 1) := by decide +kernel
theorem d_Mod_step_40 : decode m_Mod_step.2.1 40 = .ok (.aload_n 0, 1) := by decide +kernel
theorem d_Mod_step_41 : decode m_Mod_step.2.1 41 = .ok (.getfield 33, 3) := by decide +kernel
theorem d_Mod_step_44 : decode m_Mod_step.2.1 44 = .ok (.iconst 4, 1) := by decide +kernel
theorem d_Mod_step_45 : decode m_Mod_step.2.1 45 = .ok (.aload_n 0, 1) := by decide +kernel
theorem d_Mod_step_46 : decode m_Mod_step.2.1 46 = .ok (.getfield 149, 3) := by decide +kernel
theorem d_Mod_step_49 : decode m_Mod_step.2.1 49 = .ok (.imul, 1) := by decide +kernel
theorem d_Mod_step_50 : decode m_Mod_step.2.1 50 = .ok (.iconst 3, 1) := by decide +kernel
theorem d_Mod_step_51 : decode m_Mod_step.2.1 51 = .ok (.iadd, 1) := by decide +kernel
theorem d_Mod_step_52 : decode m_Mod_step.2.1 52 = .ok (.iaload, 1) := by decide +kernel
theorem d_Mod_step_53 : decode m_Mod_step.2.1 53 = .ok (.istore 4, 2) := by decide +kernel
theorem d_Mod_step_55 : decode m_Mod_step.2.1 55 = .ok (.iload_n 1, 1) := by decide +kernel
theorem d_Mod_step_56 : decode m_Mod_step.2.1 56 = .ok (.ifCond .ne 5, 3) := by decide +kernel
theorem d_Mod_step_59 : decode m_Mod_step.2.1 59 = .ok (.iconst 0, 1) := by decide +kernel
theorem d_Mod_step_60 : decode m_Mod_step.2.1 60 = .ok (.ireturn, 1) := by decide +kernel
theorem d_Mod_step_61 : decode m_Mod_step.2.1 61 = .ok (.iload_n 1, 1) := by decide +kernel
theorem d_Mod_step_62 : decode m_Mod_step.2.1 62 = .ok (.invokestatic 152, 3) := by decide +kernel
theorem d_Mod_step_65 : decode m_Mod_step.2.1 65 = .ok (.ifCond .eq 19, 3) := by decide +kernel
theorem d_Mod_step_68 : decode m_Mod_step.2.1 68 = .ok (.aload_n 0, 1) := by decide +kernel
theorem d_Mod_step_69 : decode m_Mod_step.2.1 69 = .ok (.getfield 42, 3) := by decide +kernel
theorem d_Mod_step_72 : decode m_Mod_step.2.1 72 = .ok (.iload_n 2, 1) := by decide +kernel
theorem d_Mod_step_73 : decode m_Mod_step.2.1 73 = .ok (.iaload, 1) := by decide +kernel
theorem d_Mod_step_74 : decode m_Mod_step.2.1 74 = .ok (.ifCond .ge 10, 3) := by decide +kernel
theorem d_Mod_step_77 : decode m_Mod_step.2.1 77 = .ok (.aload_n 0, 1) := by decide +kernel
theorem d_Mod_step_78 : decode m_Mod_step.2.1 78 = .ok (.iconst 3, 1) := by decide +kernel
theorem d_Mod_step_79 : decode m_Mod_step.2.1 79 = .ok (.putfield 155, 3) := by decide +kernel
theorem d_Mod_step_82 : decode m_Mod_step.2.1 82 = .ok (.iconst 0, 1) := by decide +kernel
theorem d_Mod_step_83 : decode m_Mod_step.2.1 83 = .ok (.ireturn, 1) := by decide +kernel
theorem d_Mod_step_84 : decode m_Mod_step.2.1 84 = .ok (.iload_n 1, 1) := by decide +kernel
theorem d_Mod_step_85 : decode m_Mod_step.2.1 85 = .ok (.bipush 18, 2) := by decide +kernel
theorem d_Mod_step_87 : decode m_Mod_step.2.1 87 = .ok (.if_icmp .ne 19, 3) := by decide +kernel
theorem d_Mod_step_90 : decode m_Mod_step.2.1 90 = .ok (.aload_n 0, 1) := by decide +kernel
theorem d_Mod_step_91 : decode m_Mod_step.2.1 91 = .ok (.getfield 142, 3) := by decide +kernel
theorem d_Mod_step_94 : decode m_Mod_step.2.1 94 = .ok (.bipush 64, 2) := by decide +kernel
theorem d_Mod_step_96 : decode m_Mod_step.2.1 96 = .ok (.if_icmp .ne 10, 3) := by decide +kernel
theorem d_Mod_step_99 : decode m_Mod_step.2.1 99 = .ok (.aload_n 0, 1) := by decide +kernel
theorem d_Mod_step_100 : decode m_Mod_step.2.1 100 = .ok (.iconst 2, 1) := by decide +kernel
theorem d_Mod_step_101 : decode m_Mod_step.2.1 101 = .ok (.putfield 155, 3) := by decide +kernel
theorem d_Mod_step_104 : decode m_Mod_step.2.1 104 = .ok (.iconst 0, 1) := by decide +kernel
theorem d_Mod_step_105 : decode m_Mod_step.2.1 105 = .ok (.ireturn, 1) := by decide +kernel
theorem d_Mod_step_106 : decode m_Mod_step.2.1 106 = .ok (.iload_n 1, 1) := by decide +kernel
theorem d_Mod_step_107 : decode m_Mod_step.2.1 107 = .ok (.invokestatic 152, 3) := by decide +kernel
theorem d_Mod_step_110 : decode m_Mod_step.2.1 110 = .ok (.ifCond .eq 15, 3) := by decide +kernel
theorem d_Mod_step_113 : decode m_Mod_step.2.1 113 = .ok (.aload_n 0, 1) := by decide +kernel
theorem d_Mod_step_114 : decode m_Mod_step.2.1 114 = .ok (.iload_n 1, 1) := by decide +kernel
theorem d_Mod_step_115 : decode m_Mod_step.2.1 115 = .ok (.iload_n 2, 1) := by decide +kernel
theorem d_Mod_step_116 : decode m_Mod_step.2.1 116 = .ok (.iload_n 3, 1) := by decide +kernel
theorem d_Mod_step_117 : decode m_Mod_step.2.1 117 = .ok (.iload 4, 2) := by decide +kernel
theorem d_Mod_step_119 : decode m_Mod_step.2.1 119 = .ok (.invokevirtual 158, 3) := by decide +kernel
theorem d_Mod_step_122 : decode m_Mod_step.2.1 122 = .ok (.goto 12, 3) := by decide +kernel
theorem d_Mod_step_125 : decode m_Mod_step.2.1 125 = .ok (.aload_n 0, 1) := by decide +kernel
theorem d_Mod_step_126 : decode m_Mod_step.2.1 126 = .ok (.iload_n 1, 1) := by decide +kernel
theorem d_Mod_step_127 : decode m_Mod_step.2.1 127 = .ok (.iload_n 2, 1) := by decide +kernel
theorem d_Mod_step_128 : decode m_Mod_step.2.1 128 = .ok (.iload_n 3, 1) := by decide +kernel
theorem d_Mod_step_129 : decode m_Mod_step.2.1 129 = .ok (.iload 4, 2) := by decide +kernel
theorem d_Mod_step_131 : decode m_Mod_step.2.1 131 = .ok (.invokevirtual 161, 3) := by decide +kernel
theorem d_Mod_step_134 : decode m_Mod_step.2.1 134 = .ok (.istore 5, 2) := by decide +kernel
theorem d_Mod_step_136 : decode m_Mod_step.2.1 136 = .ok (.aload_n 0, 1) := by decide +kernel
theorem d_Mod_step_137 : decode m_Mod_step.2.1 137 = .ok (.iload 5, 2) := by decide +kernel
theorem d_Mod_step_139 : decode m_Mod_step.2.1 139 = .ok (.ifCond .eq 19, 3) := by decide +kernel
theorem d_Mod_step_142 : decode m_Mod_step.2.1 142 = .ok (.iload_n 1, 1) := by decide +kernel
theorem d_Mod_step_143 : decode m_Mod_step.2.1 143 = .ok (.invokestatic 125, 3) := by decide +kernel
theorem d_Mod_step_146 : decode m_Mod_step.2.1 146 = .ok (.iconst 1, 1) := by decide +kernel
theorem d_Mod_step_147 : decode m_Mod_step.2.1 147 = .ok (.if_icmp .ne 7, 3) := by decide +kernel
theorem d_Mod_step_150 : decode m_Mod_step.2.1 150 = .ok (.iload_n 2, 1) := by decide +kernel
theorem d_Mod_step_151 : decode m_Mod_step.2.1 151 = .ok (.goto 13, 3) := by decide +kernel
theorem d_Mod_step_154 : decode m_Mod_step.2.1 154 = .ok (.iload_n 3, 1) := by decide +kernel
theorem d_Mod_step_155 : decode m_Mod_step.2.1 155 = .ok (.goto 9, 3) := by decide +kernel
theorem d_Mod_step_158 : decode m_Mod_step.2.1 158 = .ok (.aload_n 0, 1) := by decide +kernel
theorem d_Mod_step_159 : decode m_Mod_step.2.1 159 = .ok (.getfield 149, 3) := by decide +kernel
theorem d_Mod_step_162 : decode m_Mod_step.2.1 162 = .ok (.iconst 1, 1) := by decide +kernel
theorem d_Mod_step_163 : decode m_Mod_step.2.1 163 = .ok (.iadd, 1) := by decide +kernel
theorem d_Mod_step_164 : decode m_Mod_step.2.1 164 = .ok (.putfield 149, 3) := by decide +kernel
theorem d_Mod_step_167 : decode m_Mod_step.2.1 167 = .ok (.iconst 1, 1) := by decide +kernel
theorem d_Mod_step_168 : decode m_Mod_step.2.1 168 = .ok (.ireturn, 1) := by decide +kernel
theorem d_Mod_needsOpen_0 : decode m_Mod_needsOpen.2.1 0 = .ok (.iload_n 0, 1) := by decide +kernel
theorem d_Mod_needsOpen_1 : decode m_Mod_needsOpen.2.1 1 = .ok (.iconst 2, 1) := by decide +kernel
theorem d_Mod_needsOpen_2 : decode m_Mod_needsOpen.2.1 2 = .ok (.if_icmp .eq 36, 3) := by decide +kernel
theorem d_Mod_needsOpen_5 : decode m_Mod_needsOpen.2.1 5 = .ok (.iload_n 0, 1) := by decide +kernel
theorem d_Mod_needsOpen_6 : decode m_Mod_needsOpen.2.1 6 = .ok (.iconst 3, 1) := by decide +kernel
theorem d_Mod_needsOpen_7 : decode m_Mod_needsOpen.2.1 7 = .ok (.if_icmp .eq 31, 3) := by decide +kernel
theorem d_Mod_needsOpen_10 : decode m_Mod_needsOpen.2.1 10 = .ok (.iload_n 0, 1) := by decide +kernel
theorem d_Mod_needsOpen_11 : decode m_Mod_needsOpen.2.1 11 = .ok (.iconst 4, 1) := by decide +kernel
theorem d_Mod_needsOpen_12 : decode m_Mod_needsOpen.2.1 12 = .ok (.if_icmp .eq 26, 3) := by decide +kernel
theorem d_Mod_needsOpen_15 : decode m_Mod_needsOpen.2.1 15 = .ok (.iload_n 0, 1) := by decide +kernel
theorem d_Mod_needsOpen_16 : decode m_Mod_needsOpen.2.1 16 = .ok (.iconst 5, 1) := by decide +kernel
theorem d_Mod_needsOpen_17 : decode m_Mod_needsOpen.2.1 17 = .ok (.if_icmp .eq 21, 3) := by decide +kernel
theorem d_Mod_needsOpen_20 : decode m_Mod_needsOpen.2.1 20 = .ok (.iload_n 0, 1) := by decide +kernel
theorem d_Mod_needsOpen_21 : decode m_Mod_needsOpen.2.1 21 = .ok (.bipush 8, 2) := by decide +kernel
theorem d_Mod_needsOpen_23 : decode m_Mod_needsOpen.2.1 23 = .ok (.if_icmp .eq 15, 3) := by decide +kernel
theorem d_Mod_needsOpen_26 : decode m_Mod_needsOpen.2.1 26 = .ok (.iload_n 0, 1) := by decide +kernel
theorem d_Mod_needsOpen_27 : decode m_Mod_needsOpen.2.1 27 = .ok (.bipush 20, 2) := by decide +kernel
theorem d_Mod_needsOpen_29 : decode m_Mod_needsOpen.2.1 29 = .ok (.if_icmp .eq 9, 3) := by decide +kernel
theorem d_Mod_needsOpen_32 : decode m_Mod_needsOpen.2.1 32 = .ok (.iload_n 0, 1) := by decide +kernel
theorem d_Mod_needsOpen_33 : decode m_Mod_needsOpen.2.1 33 = .ok (.bipush 21, 2) := by decide +kernel
theorem d_Mod_needsOpen_35 : decode m_Mod_needsOpen.2.1 35 = .ok (.if_icmp .ne 7, 3) := by decide +kernel
theorem d_Mod_needsOpen_38 : decode m_Mod_needsOpen.2.1 38 = .ok (.iconst 1, 1) := by decide +kernel
theorem d_Mod_needsOpen_39 : decode m_Mod_needsOpen.2.1 39 = .ok (.goto 4, 3) := by decide +kernel
theorem d_Mod_needsOpen_42 : decode m_Mod_needsOpen.2.1 42 = .ok (.iconst 0, 1) := by decide +kernel
theorem d_Mod_needsOpen_43 : decode m_Mod_needsOpen.2.1 43 = .ok (.ireturn, 1) := by decide +kernel
theorem d_Mod_withCursor_0 : decode m_Mod_withCursor.2.1 0 = .ok (.aload_n 0, 1) := by decide +kernel
theorem d_Mod_withCursor_1 : decode m_Mod_withCursor.2.1 1 = .ok (.getfield 42, 3) := by decide +kernel
theorem d_Mod_withCursor_4 : decode m_Mod_withCursor.2.1 4 = .ok (.iload_n 2, 1) := by decide +kernel
theorem d_Mod_withCursor_5 : decode m_Mod_withCursor.2.1 5 = .ok (.iaload, 1) := by decide +kernel
theorem d_Mod_withCursor_6 : decode m_Mod_withCursor.2.1 6 = .ok (.istore 5, 2) := by decide +kernel
theorem d_Mod_withCursor_8 : decode m_Mod_withCursor.2.1 8 = .ok (.iload_n 1, 1) := by decide +kernel
theorem d_Mod_withCursor_9 : decode m_Mod_withCursor.2.1 9 = .ok (.iconst 2, 1) := by decide +kernel
theorem d_Mod_withCursor_10 : decode m_Mod_withCursor.2.1 10 = .ok (.if_icmp .ne 29, 3) := by decide +kernel
theorem d_Mod_withCursor_13 : decode m_Mod_withCursor.2.1 13 = .ok (.aload_n 0, 1) := by decide +kernel
theorem d_Mod_withCursor_14 : decode m_Mod_withCursor.2.1 14 = .ok (.iload_n 2, 1) := by decide +kernel
theorem d_Mod_withCursor_15 : decode m_Mod_withCursor.2.1 15 = .ok (.aload_n 0, 1) := by decide +kernel
theorem d_Mod_withCursor_16 : decode m_Mod_withCursor.2.1 16 = .ok (.iload 5, 2) := by decide +kernel
theorem d_Mod_withCursor_18 : decode m_Mod_withCursor.2.1 18 = .ok (.invokevirtual 128, 3) := by decide +kernel
theorem d_Mod_withCursor_21 : decode m_Mod_withCursor.2.1 21 = .ok (.invokevirtual 131, 3) := by decide +kernel
theorem d_Mod_withCursor_24 : decode m_Mod_withCursor.2.1 24 = .ok (.aload_n 0, 1) := by decide +kernel
theorem d_Mod_withCursor_25 : decode m_Mod_withCursor.2.1 25 = .ok (.getfield 45, 3) := by decide +kernel
theorem d_Mod_withCursor_28 : decode m_Mod_withCursor.2.1 28 = .ok (.iload_n 2, 1) := by decide +kernel
theorem d_Mod_withCursor_29 : decode m_Mod_withCursor.2.1 29 = .ok (.baload, 1) := by decide +kernel
theorem d_Mod_withCursor_30 : decode m_Mod_withCursor.2.1 30 = .ok (.ifCond .ne 7, 3) := by decide +kernel
theorem d_Mod_withCursor_33 : decode m_Mod_withCursor.2.1 33 = .ok (.iconst 1, 1) := by decide +kernel
theorem d_Mod_withCursor_34 : decode m_Mod_withCursor.2.1 34 = .ok (.goto 4, 3) := by decide +kernel
theorem d_Mod_withCursor_37 : decode m_Mod_withCursor.2.1 37 = .ok (.iconst 0, 1) := by decide +kernel
theorem d_Mod_withCursor_38 : decode m_Mod_withCursor.2.1 38 = .ok (.ireturn, 1) := by decide +kernel
theorem d_Mod_withCursor_39 : decode m_Mod_withCursor.2.1 39 = .ok (.iload_n 1, 1) := by decide +kernel
theorem d_Mod_withCursor_40 : decode m_Mod_withCursor.2.1 40 = .ok (.iconst 3, 1) := by decide +kernel
theorem d_Mod_withCursor_41 : decode m_Mod_withCursor.2.1 41 = .ok (.if_icmp .ne 54, 3) := by decide +kernel
theorem d_Mod_withCursor_44 : decode m_Mod_withCursor.2.1 44 = .ok (.aload_n 0, 1) := by decide +kernel
theorem d_Mod_withCursor_45 : decode m_Mod_withCursor.2.1 45 = .ok (.getfield 45, 3) := by decide +kernel
theorem d_Mod_withCursor_48 : decode m_Mod_withCursor.2.1 48 = .ok (.iload_n 2, 1) := by decide +kernel
theorem d_Mod_withCursor_49 : decode m_Mod_withCursor.2.1 49 = .ok (.baload, 1) := by decide +kernel
theorem d_Mod_withCursor_50 : decode m_Mod_withCursor.2.1 50 = .ok (.ifCond .eq 19, 3) := by decide +kernel
theorem d_Mod_withCursor_53 : decode m_Mod_withCursor.2.1 53 = .ok (.aload_n 0, 1) := by decide +kernel
theorem d_Mod_withCursor_54 : decode m_Mod_withCursor.2.1 54 = .ok (.iload 5, 2) := by decide +kernel
theorem d_Mod_withCursor_56 : decode m_Mod_withCursor.2.1 56 = .ok (.aload_n 0, 1) := by decide +kernel
theorem d_Mod_withCursor_57 : decode m_Mod_withCursor.2.1 57 = .ok (.getfield 48, 3) := by decide +kernel
theorem d_Mod_withCursor_60 : decode m_Mod_withCursor.2.1 60 = .ok (.iload_n 2, 1) := by decide +kernel
theorem d_Mod_withCursor_61 : decode m_Mod_withCursor.2.1 61 = .ok (.laload, 1) := by decide +kernel
theorem d_Mod_withCursor_62 : decode m_Mod_withCursor.2.1 62 = .ok (.iconst 1, 1) := by decide +kernel
theorem d_Mod_withCursor_63 : decode m_Mod_withCursor.2.1 63 = .ok (.invokevirtual 98, 3) := by decide +kernel
theorem d_Mod_withCursor_66 : decode m_Mod_withCursor.2.1 66 = .ok (.goto 4, 3) := by decide +kernel
theorem d_Mod_withCursor_69 : decode m_Mod_withCursor.2.1 69 = .ok (.iconst (-1), 1) := by decide +kernel
theorem d_Mod_withCursor_70 : decode m_Mod_withCursor.2.1 70 = .ok (.istore 6, 2) := by decide +kernel
end
section
theorem d_Mod_withCursor_72 : decode m_Mod_withCursor.2.1 72 = .ok (.iload 6, 2) := by decide +kernel
theorem d_Mod_withCursor_74 : decode m_Mod_withCursor.2.1 74 = .ok (.ifCond .lt 10, 3) := by decide +kernel
theorem d_Mod_withCursor_77 : decode m_Mod_withCursor.2.1 77 = .ok (.aload_n 0, 1) := by decide +kernel
theorem d_Mod_withCursor_78 : decode m_Mod_withCursor.2.1 78 = .ok (.iload_n 2, 1) := by decide +kernel
theorem d_Mod_withCursor_79 : decode m_Mod_withCursor.2.1 79 = .ok (.iload 6, 2) := by decide +kernel
theorem d_Mod_withCursor_81 : decode m_Mod_withCursor.2.1 81 = .ok (.invokevirtual 131, 3) := by decide +kernel
theorem d_Mod_withCursor_84 : decode m_Mod_withCursor.2.1 84 = .ok (.iload 6, 2) := by decide +kernel
theorem d_Mod_withCursor_86 : decode m_Mod_withCursor.2.1 86 = .ok (.ifCond .lt 7, 3) := by decide +kernel
theorem d_Mod_withCursor_89 : decode m_Mod_withCursor.2.1 89 = .ok (.iconst 1, 1) := by decide +kernel
theorem d_Mod_withCursor_90 : decode m_Mod_withCursor.2.1 90 = .ok (.goto 4, 3) := by decide +kernel
theorem d_Mod_withCursor_93 : decode m_Mod_withCursor.2.1 93 = .ok (.iconst 0, 1) := by decide +kernel
theorem d_Mod_withCursor_94 : decode m_Mod_withCursor.2.1 94 = .ok (.ireturn, 1) := by decide +kernel
theorem d_Mod_withCursor_95 : decode m_Mod_withCursor.2.1 95 = .ok (.iload_n 1, 1) := by decide +kernel
theorem d_Mod_withCursor_96 : decode m_Mod_withCursor.2.1 96 = .ok (.bipush 8, 2) := by decide +kernel
theorem d_Mod_withCursor_98 : decode m_Mod_withCursor.2.1 98 = .ok (.if_icmp .ne 51, 3) := by decide +kernel
theorem d_Mod_withCursor_101 : decode m_Mod_withCursor.2.1 101 = .ok (.aload_n 0, 1) := by decide +kernel
theorem d_Mod_withCursor_102 : decode m_Mod_withCursor.2.1 102 = .ok (.iload_n 2, 1) := by decide +kernel
theorem d_Mod_withCursor_103 : decode m_Mod_withCursor.2.1 103 = .ok (.aload_n 0, 1) := by decide +kernel
theorem d_Mod_withCursor_104 : decode m_Mod_withCursor.2.1 104 = .ok (.getfield 39, 3) := by decide +kernel
theorem d_Mod_withCursor_107 : decode m_Mod_withCursor.2.1 107 = .ok (.iload 4, 2) := by decide +kernel
theorem d_Mod_withCursor_109 : decode m_Mod_withCursor.2.1 109 = .ok (.baload, 1) := by decide +kernel
theorem d_Mod_withCursor_110 : decode m_Mod_withCursor.2.1 110 = .ok (.ifCond .eq 20, 3) := by decide +kernel
theorem d_Mod_withCursor_113 : decode m_Mod_withCursor.2.1 113 = .ok (.aload_n 0, 1) := by decide +kernel
theorem d_Mod_withCursor_114 : decode m_Mod_withCursor.2.1 114 = .ok (.iload 5, 2) := by decide +kernel
theorem d_Mod_withCursor_116 : decode m_Mod_withCursor.2.1 116 = .ok (.aload_n 0, 1) := by decide +kernel
theorem d_Mod_withCursor_117 : decode m_Mod_withCursor.2.1 117 = .ok (.getfield 36, 3) := by decide +kernel
theorem d_Mod_withCursor_120 : decode m_Mod_withCursor.2.1 120 = .ok (.iload 4, 2) := by decide +kernel
theorem d_Mod_withCursor_122 : decode m_Mod_withCursor.2.1 122 = .ok (.laload, 1) := by decide +kernel
theorem d_Mod_withCursor_123 : decode m_Mod_withCursor.2.1 123 = .ok (.iconst 0, 1) := by decide +kernel
theorem d_Mod_withCursor_124 : decode m_Mod_withCursor.2.1 124 = .ok (.invokevirtual 98, 3) := by decide +kernel
theorem d_Mod_withCursor_127 : decode m_Mod_withCursor.2.1 127 = .ok (.goto 4, 3) := by decide +kernel
theorem d_Mod_withCursor_130 : decode m_Mod_withCursor.2.1 130 = .ok (.iconst (-1), 1) := by decide +kernel
theorem d_Mod_withCursor_131 : decode m_Mod_withCursor.2.1 131 = .ok (.invokevirtual 131, 3) := by decide +kernel
theorem d_Mod_withCursor_134 : decode m_Mod_withCursor.2.1 134 = .ok (.aload_n 0, 1) := by decide +kernel
theorem d_Mod_withCursor_135 : decode m_Mod_withCursor.2.1 135 = .ok (.getfield 45, 3) := by decide +kernel
theorem d_Mod_withCursor_138 : decode m_Mod_withCursor.2.1 138 = .ok (.iload_n 2, 1) := by decide +kernel
theorem d_Mod_withCursor_139 : decode m_Mod_withCursor.2.1 139 = .ok (.baload, 1) := by decide +kernel
theorem d_Mod_withCursor_140 : decode m_Mod_withCursor.2.1 140 = .ok (.ifCond .ne 7, 3) := by decide +kernel
theorem d_Mod_withCursor_143 : decode m_Mod_withCursor.2.1 143 = .ok (.iconst 1, 1) := by decide +kernel
theorem d_Mod_withCursor_144 : decode m_Mod_withCursor.2.1 144 = .ok (.goto 4, 3) := by decide +kernel
theorem d_Mod_withCursor_147 : decode m_Mod_withCursor.2.1 147 = .ok (.iconst 0, 1) := by decide +kernel
theorem d_Mod_withCursor_148 : decode m_Mod_withCursor.2.1 148 = .ok (.ireturn, 1) := by decide +kernel
theorem d_Mod_withCursor_149 : decode m_Mod_withCursor.2.1 149 = .ok (.iload_n 1, 1) := by decide +kernel
theorem d_Mod_withCursor_150 : decode m_Mod_withCursor.2.1 150 = .ok (.bipush 20, 2) := by decide +kernel
theorem d_Mod_withCursor_152 : decode m_Mod_withCursor.2.1 152 = .ok (.if_icmp .ne 112, 3) := by decide +kernel
theorem d_Mod_withCursor_155 : decode m_Mod_withCursor.2.1 155 = .ok (.aload_n 0, 1) := by decide +kernel
theorem d_Mod_withCursor_156 : decode m_Mod_withCursor.2.1 156 = .ok (.getfield 39, 3) := by decide +kernel
theorem d_Mod_withCursor_159 : decode m_Mod_withCursor.2.1 159 = .ok (.iload 4, 2) := by decide +kernel
theorem d_Mod_withCursor_161 : decode m_Mod_withCursor.2.1 161 = .ok (.baload, 1) := by decide +kernel
theorem d_Mod_withCursor_162 : decode m_Mod_withCursor.2.1 162 = .ok (.ifCond .eq 28, 3) := by decide +kernel
theorem d_Mod_withCursor_165 : decode m_Mod_withCursor.2.1 165 = .ok (.aload_n 0, 1) := by decide +kernel
theorem d_Mod_withCursor_166 : decode m_Mod_withCursor.2.1 166 = .ok (.getfield 79, 3) := by decide +kernel
theorem d_Mod_withCursor_169 : decode m_Mod_withCursor.2.1 169 = .ok (.bipush 90, 2) := by decide +kernel
theorem d_Mod_withCursor_171 : decode m_Mod_withCursor.2.1 171 = .ok (.if_icmp .eq 19, 3) := by decide +kernel
theorem d_Mod_withCursor_174 : decode m_Mod_withCursor.2.1 174 = .ok (.aload_n 0, 1) := by decide +kernel
theorem d_Mod_withCursor_175 : decode m_Mod_withCursor.2.1 175 = .ok (.iload 5, 2) := by decide +kernel
theorem d_Mod_withCursor_177 : decode m_Mod_withCursor.2.1 177 = .ok (.aload_n 0, 1) := by decide +kernel
theorem d_Mod_withCursor_178 : decode m_Mod_withCursor.2.1 178 = .ok (.getfield 36, 3) := by decide +kernel
theorem d_Mod_withCursor_181 : decode m_Mod_withCursor.2.1 181 = .ok (.iload 4, 2) := by decide +kernel
theorem d_Mod_withCursor_183 : decode m_Mod_withCursor.2.1 183 = .ok (.laload, 1) := by decide +kernel
theorem d_Mod_withCursor_184 : decode m_Mod_withCursor.2.1 184 = .ok (.invokevirtual 86, 3) := by decide +kernel
theorem d_Mod_withCursor_187 : decode m_Mod_withCursor.2.1 187 = .ok (.ifCond .lt 5, 3) := by decide +kernel
theorem d_Mod_withCursor_190 : decode m_Mod_withCursor.2.1 190 = .ok (.iconst 1, 1) := by decide +kernel
theorem d_Mod_withCursor_191 : decode m_Mod_withCursor.2.1 191 = .ok (.ireturn, 1) := by decide +kernel
theorem d_Mod_withCursor_192 : decode m_Mod_withCursor.2.1 192 = .ok (.iconst 0, 1) := by decide +kernel
theorem d_Mod_withCursor_193 : decode m_Mod_withCursor.2.1 193 = .ok (.istore 6, 2) := by decide +kernel
theorem d_Mod_withCursor_195 : decode m_Mod_withCursor.2.1 195 = .ok (.iload 6, 2) := by decide +kernel
theorem d_Mod_withCursor_197 : decode m_Mod_withCursor.2.1 197 = .ok (.aload_n 0, 1) := by decide +kernel
theorem d_Mod_withCursor_198 : decode m_Mod_withCursor.2.1 198 = .ok (.getfield 7, 3) := by decide +kernel
theorem d_Mod_withCursor_201 : decode m_Mod_withCursor.2.1 201 = .ok (.iload 5, 2) := by decide +kernel
theorem d_Mod_withCursor_203 : decode m_Mod_withCursor.2.1 203 = .ok (.iaload, 1) := by decide +kernel
theorem d_Mod_withCursor_204 : decode m_Mod_withCursor.2.1 204 = .ok (.if_icmp .ge 48, 3) := by decide +kernel
theorem d_Mod_withCursor_207 : decode m_Mod_withCursor.2.1 207 = .ok (.aload_n 0, 1) := by decide +kernel
theorem d_Mod_withCursor_208 : decode m_Mod_withCursor.2.1 208 = .ok (.iload 5, 2) := by decide +kernel
theorem d_Mod_withCursor_210 : decode m_Mod_withCursor.2.1 210 = .ok (.aload_n 0, 1) := by decide +kernel
theorem d_Mod_withCursor_211 : decode m_Mod_withCursor.2.1 211 = .ok (.getfield 36, 3) := by decide +kernel
theorem d_Mod_withCursor_214 : decode m_Mod_withCursor.2.1 214 = .ok (.iload 4, 2) := by decide +kernel
theorem d_Mod_withCursor_216 : decode m_Mod_withCursor.2.1 216 = .ok (.laload, 1) := by decide +kernel
theorem d_Mod_withCursor_217 : decode m_Mod_withCursor.2.1 217 = .ok (.iload 6, 2) := by decide +kernel
theorem d_Mod_withCursor_219 : decode m_Mod_withCursor.2.1 219 = .ok (.aload_n 0, 1) := by decide +kernel
theorem d_Mod_withCursor_220 : decode m_Mod_withCursor.2.1 220 = .ok (.getfield 39, 3) := by decide +kernel
theorem d_Mod_withCursor_223 : decode m_Mod_withCursor.2.1 223 = .ok (.iload 4, 2) := by decide +kernel
theorem d_Mod_withCursor_225 : decode m_Mod_withCursor.2.1 225 = .ok (.iconst 1, 1) := by decide +kernel
theorem d_Mod_withCursor_226 : decode m_Mod_withCursor.2.1 226 = .ok (.iadd, 1) := by decide +kernel
theorem d_Mod_withCursor_227 : decode m_Mod_withCursor.2.1 227 = .ok (.iload 6, 2) := by decide +kernel
theorem d_Mod_withCursor_229 : decode m_Mod_withCursor.2.1 229 = .ok (.iadd, 1) := by decide +kernel
theorem d_Mod_withCursor_230 : decode m_Mod_withCursor.2.1 230 = .ok (.baload, 1) := by decide +kernel
theorem d_Mod_withCursor_231 : decode m_Mod_withCursor.2.1 231 = .ok (.aload_n 0, 1) := by decide +kernel
theorem d_Mod_withCursor_232 : decode m_Mod_withCursor.2.1 232 = .ok (.getfield 36, 3) := by decide +kernel
theorem d_Mod_withCursor_235 : decode m_Mod_withCursor.2.1 235 = .ok (.iload 4, 2) := by decide +kernel
theorem d_Mod_withCursor_237 : decode m_Mod_withCursor.2.1 237 = .ok (.iconst 1, 1) := by decide +kernel
theorem d_Mod_withCursor_238 : decode m_Mod_withCursor.2.1 238 = .ok (.iadd, 1) := by decide +kernel
theorem d_Mod_withCursor_239 : decode m_Mod_withCursor.2.1 239 = .ok (.iload 6, 2) := by decide +kernel
theorem d_Mod_withCursor_241 : decode m_Mod_withCursor.2.1 241 = .ok (.iadd, 1) := by decide +kernel
theorem d_Mod_withCursor_242 : decode m_Mod_withCursor.2.1 242 = .ok (.laload, 1) := by decide +kernel
theorem d_Mod_withCursor_243 : decode m_Mod_withCursor.2.1 243 = .ok (.invokevirtual 90, 3) := by decide +kernel
theorem d_Mod_withCursor_246 : decode m_Mod_withCursor.2.1 246 = .ok (.iinc 6 1, 3) := by decide +kernel
theorem d_Mod_withCursor_249 : decode m_Mod_withCursor.2.1 249 = .ok (.goto (-54), 3) := by decide +kernel
theorem d_Mod_withCursor_252 : decode m_Mod_withCursor.2.1 252 = .ok (.aload_n 0, 1) := by decide +kernel
theorem d_Mod_withCursor_253 : decode m_Mod_withCursor.2.1 253 = .ok (.dup, 1) := by decide +kernel
theorem d_Mod_withCursor_254 : decode m_Mod_withCursor.2.1 254 = .ok (.getfield 79, 3) := by decide +kernel
theorem d_Mod_withCursor_257 : decode m_Mod_withCursor.2.1 257 = .ok (.iconst 1, 1) := by decide +kernel
theorem d_Mod_withCursor_258 : decode m_Mod_withCursor.2.1 258 = .ok (.iadd, 1) := by decide +kernel
theorem d_Mod_withCursor_259 : decode m_Mod_withCursor.2.1 259 = .ok (.putfield 79, 3) := by decide +kernel
theorem d_Mod_withCursor_262 : decode m_Mod_withCursor.2.1 262 = .ok (.iconst 0, 1) := by decide +kernel
theorem d_Mod_withCursor_263 : decode m_Mod_withCursor.2.1 263 = .ok (.ireturn, 1) := by decide +kernel
theorem d_Mod_withCursor_264 : decode m_Mod_withCursor.2.1 264 = .ok (.aload_n 0, 1) := by decide +kernel
theorem d_Mod_withCursor_265 : decode m_Mod_withCursor.2.1 265 = .ok (.iload_n 2, 1) := by decide +kernel
theorem d_Mod_withCursor_266 : decode m_Mod_withCursor.2.1 266 = .ok (.invokevirtual 135, 3) := by decide +kernel
theorem d_Mod_withCursor_269 : decode m_Mod_withCursor.2.1 269 = .ok (.istore 6, 2) := by decide +kernel
theorem d_Mod_withCursor_271 : decode m_Mod_withCursor.2.1 271 = .ok (.iload_n 1, 1) := by decide +kernel
theorem d_Mod_withCursor_272 : decode m_Mod_withCursor.2.1 272 = .ok (.iconst 4, 1) := by decide +kernel
theorem d_Mod_withCursor_273 : decode m_Mod_withCursor.2.1 273 = .ok (.if_icmp .ne 88, 3) := by decide +kernel
theorem d_Mod_withCursor_276 : decode m_Mod_withCursor.2.1 276 = .ok (.iload 6, 2) := by decide +kernel
theorem d_Mod_withCursor_278 : decode m_Mod_withCursor.2.1 278 = .ok (.ifCond .lt 18, 3) := by decide +kernel
theorem d_Mod_withCursor_281 : decode m_Mod_withCursor.2.1 281 = .ok (.iload_n 3, 1) := by decide +kernel
theorem d_Mod_withCursor_282 : decode m_Mod_withCursor.2.1 282 = .ok (.aload_n 0, 1) := by decide +kernel
theorem d_Mod_withCursor_283 : decode m_Mod_withCursor.2.1 283 = .ok (.getfield 7, 3) := by decide +kernel
theorem d_Mod_withCursor_286 : decode m_Mod_withCursor.2.1 286 = .ok (.iload 5, 2) := by decide +kernel
theorem d_Mod_withCursor_288 : decode m_Mod_withCursor.2.1 288 = .ok (.iaload, 1) := by decide +kernel
theorem d_Mod_withCursor_289 : decode m_Mod_withCursor.2.1 289 = .ok (.if_icmp .ge 7, 3) := by decide +kernel
theorem d_Mod_withCursor_292 : decode m_Mod_withCursor.2.1 292 = .ok (.iconst 1, 1) := by decide +kernel
theorem d_Mod_withCursor_293 : decode m_Mod_withCursor.2.1 293 = .ok (.goto 4, 3) := by decide +kernel
theorem d_Mod_withCursor_296 : decode m_Mod_withCursor.2.1 296 = .ok (.iconst 0, 1) := by decide +kernel
theorem d_Mod_withCursor_297 : decode m_Mod_withCursor.2.1 297 = .ok (.istore 7, 2) := by decide +kernel
theorem d_Mod_withCursor_299 : decode m_Mod_withCursor.2.1 299 = .ok (.aload_n 0, 1) := by decide +kernel
theorem d_Mod_withCursor_300 : decode m_Mod_withCursor.2.1 300 = .ok (.iload 4, 2) := by decide +kernel
theorem d_Mod_withCursor_302 : decode m_Mod_withCursor.2.1 302 = .ok (.iload 7, 2) := by decide +kernel
theorem d_Mod_withCursor_304 : decode m_Mod_withCursor.2.1 304 = .ok (.ifCond .eq 30, 3) := by decide +kernel
theorem d_Mod_withCursor_307 : decode m_Mod_withCursor.2.1 307 = .ok (.aload_n 0, 1) := by decide +kernel
theorem d_Mod_withCursor_308 : decode m_Mod_withCursor.2.1 308 = .ok (.getfield 23, 3) := by decide +kernel
theorem d_Mod_withCursor_311 : decode m_Mod_withCursor.2.1 311 = .ok (.iload 7, 2) := by decide +kernel
theorem d_Mod_withCursor_313 : decode m_Mod_withCursor.2.1 313 = .ok (.ifCond .eq 12, 3) := by decide +kernel
theorem d_Mod_withCursor_316 : decode m_Mod_withCursor.2.1 316 = .ok (.iconst 4, 1) := by decide +kernel
theorem d_Mod_withCursor_317 : decode m_Mod_withCursor.2.1 317 = .ok (.iload 6, 2) := by decide +kernel
theorem d_Mod_withCursor_319 : decode m_Mod_withCursor.2.1 319 = .ok (.imul, 1) := by decide +kernel
theorem d_Mod_withCursor_320 : decode m_Mod_withCursor.2.1 320 = .ok (.iload_n 3, 1) := by decide +kernel
theorem d_Mod_withCursor_321 : decode m_Mod_withCursor.2.1 321 = .ok (.iadd, 1) := by decide +kernel
theorem d_Mod_withCursor_322 : decode m_Mod_withCursor.2.1 322 = .ok (.goto 4, 3) := by decide +kernel
theorem d_Mod_withCursor_325 : decode m_Mod_withCursor.2.1 325 = .ok (.iconst 0, 1) := by decide +kernel
theorem d_Mod_withCursor_326 : decode m_Mod_withCursor.2.1 326 = .ok (.baload, 1) := by decide +kernel
theorem d_Mod_withCursor_327 : decode m_Mod_withCursor.2.1 327 = .ok (.ifCond .eq 7, 3) := by decide +kernel
theorem d_Mod_withCursor_330 : decode m_Mod_withCursor.2.1 330 = .ok (.iconst 1, 1) := by decide +kernel
theorem d_Mod_withCursor_331 : decode m_Mod_withCursor.2.1 331 = .ok (.goto 4, 3) := by decide +kernel
theorem d_Mod_withCursor_334 : decode m_Mod_withCursor.2.1 334 = .ok (.iconst 0, 1) := by decide +kernel
theorem d_Mod_withCursor_335 : decode m_Mod_withCursor.2.1 335 = .ok (.iload 7, 2) := by decide +kernel
theorem d_Mod_withCursor_337 : decode m_Mod_withCursor.2.1 337 = .ok (.ifCond .eq 17, 3) := by decide +kernel
theorem d_Mod_withCursor_340 : decode m_Mod_withCursor.2.1 340 = .ok (.aload_n 0, 1) := by decide +kernel
theorem d_Mod_withCursor_341 : decode m_Mod_withCursor.2.1 341 = .ok (.getfield 20, 3) := by decide +kernel
theorem d_Mod_withCursor_344 : decode m_Mod_withCursor.2.1 344 = .ok (.iconst 4, 1) := by decide +kernel
theorem d_Mod_withCursor_345 : decode m_Mod_withCursor.2.1 345 = .ok (.iload 6, 2) := by decide +kernel
theorem d_Mod_withCursor_347 : decode m_Mod_withCursor.2.1 347 = .ok (.imul, 1) := by decide +kernel
theorem d_Mod_withCursor_348 : decode m_Mod_withCursor.2.1 348 = .ok (.iload_n 3, 1) := by decide +kernel
theorem d_Mod_withCursor_349 : decode m_Mod_withCursor.2.1 349 = .ok (.iadd, 1) := by decide +kernel
theorem d_Mod_withCursor_350 : decode m_Mod_withCursor.2.1 350 = .ok (.laload, 1) := by decide +kernel
theorem d_Mod_withCursor_351 : decode m_Mod_withCursor.2.1 351 = .ok (.goto 4, 3) := by decide +kernel
theorem d_Mod_withCursor_354 : decode m_Mod_withCursor.2.1 354 = .ok (.lconst 0, 1) := by decide +kernel
theorem d_Mod_withCursor_355 : decode m_Mod_withCursor.2.1 355 = .ok (.invokevirtual 138, 3) := by decide +kernel
theorem d_Mod_withCursor_358 : decode m_Mod_withCursor.2.1 358 = .ok (.goto 43, 3) := by decide +kernel
theorem d_Mod_withCursor_361 : decode m_Mod_withCursor.2.1 361 = .ok (.iload_n 1, 1) := by decide +kernel
theorem d_Mod_withCursor_362 : decode m_Mod_withCursor.2.1 362 = .ok (.iconst 5, 1) := by decide +kernel
theorem d_Mod_withCursor_363 : decode m_Mod_withCursor.2.1 363 = .ok (.if_icmp .ne 27, 3) := by decide +kernel
theorem d_Mod_withCursor_366 : decode m_Mod_withCursor.2.1 366 = .ok (.aload_n 0, 1) := by decide +kernel
theorem d_Mod_withCursor_367 : decode m_Mod_withCursor.2.1 367 = .ok (.iload_n 3, 1) := by decide +kernel
theorem d_Mod_withCursor_368 : decode m_Mod_withCursor.2.1 368 = .ok (.iload 6, 2) := by decide +kernel
theorem d_Mod_withCursor_370 : decode m_Mod_withCursor.2.1 370 = .ok (.ifCond .lt 7, 3) := by decide +kernel
theorem d_Mod_withCursor_373 : decode m_Mod_withCursor.2.1 373 = .ok (.iconst 1, 1) := by decide +kernel
theorem d_Mod_withCursor_374 : decode m_Mod_withCursor.2.1 374 = .ok (.goto 4, 3) := by decide +kernel
theorem d_Mod_withCursor_377 : decode m_Mod_withCursor.2.1 377 = .ok (.iconst 0, 1) := by decide +kernel
theorem d_Mod_withCursor_378 : decode m_Mod_withCursor.2.1 378 = .ok (.aload_n 0, 1) := by decide +kernel
theorem d_Mod_withCursor_379 : decode m_Mod_withCursor.2.1 379 = .ok (.getfield 48, 3) := by decide +kernel
theorem d_Mod_withCursor_382 : decode m_Mod_withCursor.2.1 382 = .ok (.iload_n 2, 1) := by decide +kernel
theorem d_Mod_withCursor_383 : decode m_Mod_withCursor.2.1 383 = .ok (.laload, 1) := by decide +kernel
theorem d_Mod_withCursor_384 : decode m_Mod_withCursor.2.1 384 = .ok (.invokevirtual 138, 3) := by decide +kernel
theorem d_Mod_withCursor_387 : decode m_Mod_withCursor.2.1 387 = .ok (.goto 14, 3) := by decide +kernel
theorem d_Mod_withCursor_390 : decode m_Mod_withCursor.2.1 390 = .ok (.iload 6, 2) := by decide +kernel
theorem d_Mod_withCursor_392 : decode m_Mod_withCursor.2.1 392 = .ok (.ifCond .lt 9, 3) := by decide +kernel
theorem d_Mod_withCursor_395 : decode m_Mod_withCursor.2.1 395 = .ok (.aload_n 0, 1) := by decide +kernel
theorem d_Mod_withCursor_396 : decode m_Mod_withCursor.2.1 396 = .ok (.iload 6, 2) := by decide +kernel
theorem d_Mod_withCursor_398 : decode m_Mod_withCursor.2.1 398 = .ok (.invokevirtual 94, 3) := by decide +kernel
theorem d_Mod_withCursor_401 : decode m_Mod_withCursor.2.1 401 = .ok (.iconst 0, 1) := by decide +kernel
theorem d_Mod_withCursor_402 : decode m_Mod_withCursor.2.1 402 = .ok (.ireturn, 1) := by decide +kernel
theorem d_Mod_firstRow_0 : decode m_Mod_firstRow.2.1 0 = .ok (.iconst (-1), 1) := by decide +kernel
theorem d_Mod_firstRow_1 : decode m_Mod_firstRow.2.1 1 = .ok (.istore_n 2, 1) := by decide +kernel
theorem d_Mod_firstRow_2 : decode m_Mod_firstRow.2.1 2 = .ok (.iconst 0, 1) := by decide +kernel
theorem d_Mod_firstRow_3 : decode m_Mod_firstRow.2.1 3 = .ok (.istore_n 3, 1) := by decide +kernel
theorem d_Mod_firstRow_4 : decode m_Mod_firstRow.2.1 4 = .ok (.iload_n 3, 1) := by decide +kernel
theorem d_Mod_firstRow_5 : decode m_Mod_firstRow.2.1 5 = .ok (.aload_n 0, 1) := by decide +kernel
theorem d_Mod_firstRow_6 : decode m_Mod_firstRow.2.1 6 = .ok (.getfield 79, 3) := by decide +kernel
theorem d_Mod_firstRow_9 : decode m_Mod_firstRow.2.1 9 = .ok (.if_icmp .ge 53, 3) := by decide +kernel
theorem d_Mod_firstRow_12 : decode m_Mod_firstRow.2.1 12 = .ok (.aload_n 0, 1) := by decide +kernel
theorem d_Mod_firstRow_13 : decode m_Mod_firstRow.2.1 13 = .ok (.getfield 13, 3) := by decide +kernel
theorem d_Mod_firstRow_16 : decode m_Mod_firstRow.2.1 16 = .ok (.iload_n 3, 1) := by decide +kernel
theorem d_Mod_firstRow_17 : decode m_Mod_firstRow.2.1 17 = .ok (.iaload, 1) := by decide +kernel
theorem d_Mod_firstRow_18 : decode m_Mod_firstRow.2.1 18 = .ok (.iload_n 1, 1) := by decide +kernel
theorem d_Mod_firstRow_19 : decode m_Mod_firstRow.2.1 19 = .ok (.if_icmp .ne 35, 3) := by decide +kernel
theorem d_Mod_firstRow_22 : decode m_Mod_firstRow.2.1 22 = .ok (.iload_n 2, 1) := by decide +kernel
theorem d_Mod_firstRow_23 : decode m_Mod_firstRow.2.1 23 = .ok (.ifCond .lt 27, 3) := by decide +kernel
theorem d_Mod_firstRow_26 : decode m_Mod_firstRow.2.1 26 = .ok (.aload_n 0, 1) := by decide +kernel
theorem d_Mod_firstRow_27 : decode m_Mod_firstRow.2.1 27 = .ok (.getfield 16, 3) := by decide +kernel
theorem d_Mod_firstRow_30 : decode m_Mod_firstRow.2.1 30 = .ok (.iload_n 3, 1) := by decide +kernel
theorem d_Mod_firstRow_31 : decode m_Mod_firstRow.2.1 31 = .ok (.laload, 1) := by decide +kernel
theorem d_Mod_firstRow_32 : decode m_Mod_firstRow.2.1 32 = .ok (.aload_n 0, 1) := by decide +kernel
theorem d_Mod_firstRow_33 : decode m_Mod_firstRow.2.1 33 = .ok (.getfield 16, 3) := by decide +kernel
theorem d_Mod_firstRow_36 : decode m_Mod_firstRow.2.1 36 = .ok (.iload_n 2, 1) := by decide +kernel
theorem d_Mod_firstRow_37 : decode m_Mod_firstRow.2.1 37 = .ok (.ifCond .ge 7, 3) := by decide +kernel
theorem d_Mod_firstRow_40 : decode m_Mod_firstRow.2.1 40 = .ok (.iconst 0, 1) := by decide +kernel
theorem d_Mod_firstRow_41 : decode m_Mod_firstRow.2.1 41 = .ok (.goto 4, 3) := by decide +kernel
theorem d_Mod_firstRow_44 : decode m_Mod_firstRow.2.1 44 = .ok (.iload_n 2, 1) := by decide +kernel
theorem d_Mod_firstRow_45 : decode m_Mod_firstRow.2.1 45 = .ok (.laload, 1) := by decide +kernel
theorem d_Mod_firstRow_46 : decode m_Mod_firstRow.2.1 46 = .ok (.lcmp, 1) := by decide +kernel
theorem d_Mod_firstRow_47 : decode m_Mod_firstRow.2.1 47 = .ok (.ifCond .ge 7, 3) := by decide +kernel
theorem d_Mod_firstRow_50 : decode m_Mod_firstRow.2.1 50 = .ok (.iload_n 3, 1) := by decide +kernel
theorem d_Mod_firstRow_51 : decode m_Mod_firstRow.2.1 51 = .ok (.goto 4, 3) := by decide +kernel
theorem d_Mod_firstRow_54 : decode m_Mod_firstRow.2.1 54 = .ok (.iload_n 2, 1) := by decide +kernel
theorem d_Mod_firstRow_55 : decode m_Mod_firstRow.2.1 55 = .ok (.istore_n 2, 1) := by decide +kernel
theorem d_Mod_firstRow_56 : decode m_Mod_firstRow.2.1 56 = .ok (.iinc 3 1, 3) := by decide +kernel
theorem d_Mod_firstRow_59 : decode m_Mod_firstRow.2.1 59 = .ok (.goto (-55), 3) := by decide +kernel
theorem d_Mod_firstRow_62 : decode m_Mod_firstRow.2.1 62 = .ok (.iload_n 2, 1) := by decide +kernel
theorem d_Mod_firstRow_63 : decode m_Mod_firstRow.2.1 63 = .ok (.ireturn, 1) := by decide +kernel
theorem d_Mod_point_0 : decode m_Mod_point.2.1 0 = .ok (.aload_n 0, 1) := by decide +kernel
theorem d_Mod_point_1 : decode m_Mod_point.2.1 1 = .ok (.getfield 45, 3) := by decide +kernel
theorem d_Mod_point_4 : decode m_Mod_point.2.1 4 = .ok (.iload_n 1, 1) := by decide +kernel
theorem d_Mod_point_5 : decode m_Mod_point.2.1 5 = .ok (.iload_n 2, 1) := by decide +kernel
theorem d_Mod_point_6 : decode m_Mod_point.2.1 6 = .ok (.ifCond .lt 7, 3) := by decide +kernel
theorem d_Mod_point_9 : decode m_Mod_point.2.1 9 = .ok (.iconst 1, 1) := by decide +kernel
theorem d_Mod_point_10 : decode m_Mod_point.2.1 10 = .ok (.goto 4, 3) := by decide +kernel
theorem d_Mod_point_13 : decode m_Mod_point.2.1 13 = .ok (.iconst 0, 1) := by decide +kernel
theorem d_Mod_point_14 : decode m_Mod_point.2.1 14 = .ok (.bastore, 1) := by decide +kernel
theorem d_Mod_point_15 : decode m_Mod_point.2.1 15 = .ok (.aload_n 0, 1) := by decide +kernel
theorem d_Mod_point_16 : decode m_Mod_point.2.1 16 = .ok (.getfield 48, 3) := by decide +kernel
theorem d_Mod_point_19 : decode m_Mod_point.2.1 19 = .ok (.iload_n 1, 1) := by decide +kernel
theorem d_Mod_point_20 : decode m_Mod_point.2.1 20 = .ok (.iload_n 2, 1) := by decide +kernel
theorem d_Mod_point_21 : decode m_Mod_point.2.1 21 = .ok (.ifCond .ge 7, 3) := by decide +kernel
theorem d_Mod_point_24 : decode m_Mod_point.2.1 24 = .ok (.lconst 0, 1) := by decide +kernel
theorem d_Mod_point_25 : decode m_Mod_point.2.1 25 = .ok (.goto 9, 3) := by decide +kernel
theorem d_Mod_point_28 : decode m_Mod_point.2.1 28 = .ok (.aload_n 0, 1) := by decide +kernel
theorem d_Mod_point_29 : decode m_Mod_point.2.1 29 = .ok (.getfield 16, 3) := by decide +kernel
theorem d_Mod_point_32 : decode m_Mod_point.2.1 32 = .ok (.iload_n 2, 1) := by decide +kernel
theorem d_Mod_point_33 : decode m_Mod_point.2.1 33 = .ok (.laload, 1) := by decide +kernel
theorem d_Mod_point_34 : decode m_Mod_point.2.1 34 = .ok (.lastore, 1) := by decide +kernel
theorem d_Mod_point_35 : decode m_Mod_point.2.1 35 = .ok (.return_, 1) := by decide +kernel
theorem d_Mod_rowAt_0 : decode m_Mod_rowAt.2.1 0 = .ok (.aload_n 0, 1) := by decide +kernel
theorem d_Mod_rowAt_1 : decode m_Mod_rowAt.2.1 1 = .ok (.getfield 45, 3) := by decide +kernel
theorem d_Mod_rowAt_4 : decode m_Mod_rowAt.2.1 4 = .ok (.iload_n 1, 1) := by decide +kernel
theorem d_Mod_rowAt_5 : decode m_Mod_rowAt.2.1 5 = .ok (.baload, 1) := by decide +kernel
theorem d_Mod_rowAt_6 : decode m_Mod_rowAt.2.1 6 = .ok (.ifCond .eq 22, 3) := by decide +kernel
theorem d_Mod_rowAt_9 : decode m_Mod_rowAt.2.1 9 = .ok (.aload_n 0, 1) := by decide +kernel
theorem d_Mod_rowAt_10 : decode m_Mod_rowAt.2.1 10 = .ok (.aload_n 0, 1) := by decide +kernel
theorem d_Mod_rowAt_11 : decode m_Mod_rowAt.2.1 11 = .ok (.getfield 42, 3) := by decide +kernel
theorem d_Mod_rowAt_14 : decode m_Mod_rowAt.2.1 14 = .ok (.iload_n 1, 1) := by decide +kernel
theorem d_Mod_rowAt_15 : decode m_Mod_rowAt.2.1 15 = .ok (.iaload, 1) := by decide +kernel
theorem d_Mod_rowAt_16 : decode m_Mod_rowAt.2.1 16 = .ok (.aload_n 0, 1) := by decide +kernel
theorem d_Mod_rowAt_17 : decode m_Mod_rowAt.2.1 17 = .ok (.getfield 48, 3) := by decide +kernel
theorem d_Mod_rowAt_20 : decode m_Mod_rowAt.2.1 20 = .ok (.iload_n 1, 1) := by decide +kernel
theorem d_Mod_rowAt_21 : decode m_Mod_rowAt.2.1 21 = .ok (.laload, 1) := by decide +kernel
theorem d_Mod_rowAt_22 : decode m_Mod_rowAt.2.1 22 = .ok (.invokevirtual 86, 3) := by decide +kernel
theorem d_Mod_rowAt_25 : decode m_Mod_rowAt.2.1 25 = .ok (.goto 4, 3) := by decide +kernel
theorem d_Mod_rowAt_28 : decode m_Mod_rowAt.2.1 28 = .ok (.iconst (-1), 1) := by decide +kernel
theorem d_Mod_rowAt_29 : decode m_Mod_rowAt.2.1 29 = .ok (.ireturn, 1) := by decide +kernel
theorem d_Mod_without_0 : decode m_Mod_without.2.1 0 = .ok (.iload_n 1, 1) := by decide +kernel
theorem d_Mod_without_1 : decode m_Mod_without.2.1 1 = .ok (.iconst 1, 1) := by decide +kernel
theorem d_Mod_without_2 : decode m_Mod_without.2.1 2 = .ok (.if_icmp .ne 20, 3) := by decide +kernel
theorem d_Mod_without_5 : decode m_Mod_without.2.1 5 = .ok (.aload_n 0, 1) := by decide +kernel
theorem d_Mod_without_6 : decode m_Mod_without.2.1 6 = .ok (.getfield 42, 3) := by decide +kernel
theorem d_Mod_without_9 : decode m_Mod_without.2.1 9 = .ok (.iload_n 2, 1) := by decide +kernel
theorem d_Mod_without_10 : decode m_Mod_without.2.1 10 = .ok (.iload_n 3, 1) := by decide +kernel
theorem d_Mod_without_11 : decode m_Mod_without.2.1 11 = .ok (.iastore, 1) := by decide +kernel
theorem d_Mod_without_12 : decode m_Mod_without.2.1 12 = .ok (.aload_n 0, 1) := by decide +kernel
theorem d_Mod_without_13 : decode m_Mod_without.2.1 13 = .ok (.getfield 45, 3) := by decide +kernel
theorem d_Mod_without_16 : decode m_Mod_without.2.1 16 = .ok (.iload_n 2, 1) := by decide +kernel
theorem d_Mod_without_17 : decode m_Mod_without.2.1 17 = .ok (.iconst 0, 1) := by decide +kernel
theorem d_Mod_without_18 : decode m_Mod_without.2.1 18 = .ok (.bastore, 1) := by decide +kernel
theorem d_Mod_without_19 : decode m_Mod_without.2.1 19 = .ok (.goto 273, 3) := by decide +kernel
theorem d_Mod_without_22 : decode m_Mod_without.2.1 22 = .ok (.iload_n 1, 1) := by decide +kernel
theorem d_Mod_without_23 : decode m_Mod_without.2.1 23 = .ok (.bipush 6, 2) := by decide +kernel
theorem d_Mod_without_25 : decode m_Mod_without.2.1 25 = .ok (.if_icmp .ne 14, 3) := by decide +kernel
theorem d_Mod_without_28 : decode m_Mod_without.2.1 28 = .ok (.aload_n 0, 1) := by decide +kernel
theorem d_Mod_without_29 : decode m_Mod_without.2.1 29 = .ok (.iload_n 3, 1) := by decide +kernel
theorem d_Mod_without_30 : decode m_Mod_without.2.1 30 = .ok (.iconst 1, 1) := by decide +kernel
theorem d_Mod_without_31 : decode m_Mod_without.2.1 31 = .ok (.iload_n 2, 1) := by decide +kernel
theorem d_Mod_without_32 : decode m_Mod_without.2.1 32 = .ok (.i2l, 1) := by decide +kernel
theorem d_Mod_without_33 : decode m_Mod_without.2.1 33 = .ok (.invokevirtual 138, 3) := by decide +kernel
theorem d_Mod_without_36 : decode m_Mod_without.2.1 36 = .ok (.goto 256, 3) := by decide +kernel
theorem d_Mod_without_39 : decode m_Mod_without.2.1 39 = .ok (.iload_n 1, 1) := by decide +kernel
theorem d_Mod_without_40 : decode m_Mod_without.2.1 40 = .ok (.bipush 7, 2) := by decide +kernel
theorem d_Mod_without_42 : decode m_Mod_without.2.1 42 = .ok (.if_icmp .ne 13, 3) := by decide +kernel
theorem d_Mod_without_45 : decode m_Mod_without.2.1 45 = .ok (.aload_n 0, 1) := by decide +kernel
theorem d_Mod_without_46 : decode m_Mod_without.2.1 46 = .ok (.iload_n 2, 1) := by decide +kernel
theorem d_Mod_without_47 : decode m_Mod_without.2.1 47 = .ok (.iconst 0, 1) := by decide +kernel
theorem d_Mod_without_48 : decode m_Mod_without.2.1 48 = .ok (.lconst 0, 1) := by decide +kernel
theorem d_Mod_without_49 : decode m_Mod_without.2.1 49 = .ok (.invokevirtual 138, 3) := by decide +kernel
theorem d_Mod_without_52 : decode m_Mod_without.2.1 52 = .ok (.goto 240, 3) := by decide +kernel
theorem d_Mod_without_55 : decode m_Mod_without.2.1 55 = .ok (.iload_n 1, 1) := by decide +kernel
theorem d_Mod_without_56 : decode m_Mod_without.2.1 56 = .ok (.bipush 17, 2) := by decide +kernel
theorem d_Mod_without_58 : decode m_Mod_without.2.1 58 = .ok (.if_icmp .ne 48, 3) := by decide +kernel
theorem d_Mod_without_61 : decode m_Mod_without.2.1 61 = .ok (.aload_n 0, 1) := by decide +kernel
theorem d_Mod_without_62 : decode m_Mod_without.2.1 62 = .ok (.iload 4, 2) := by decide +kernel
theorem d_Mod_without_64 : decode m_Mod_without.2.1 64 = .ok (.aload_n 0, 1) := by decide +kernel
theorem d_Mod_without_65 : decode m_Mod_without.2.1 65 = .ok (.getfield 39, 3) := by decide +kernel
theorem d_Mod_without_68 : decode m_Mod_without.2.1 68 = .ok (.iload_n 2, 1) := by decide +kernel
theorem d_Mod_without_69 : decode m_Mod_without.2.1 69 = .ok (.baload, 1) := by decide +kernel
theorem d_Mod_without_70 : decode m_Mod_without.2.1 70 = .ok (.ifCond .eq 16, 3) := by decide +kernel
theorem d_Mod_without_73 : decode m_Mod_without.2.1 73 = .ok (.aload_n 0, 1) := by decide +kernel
theorem d_Mod_without_74 : decode m_Mod_without.2.1 74 = .ok (.getfield 39, 3) := by decide +kernel
theorem d_Mod_without_77 : decode m_Mod_without.2.1 77 = .ok (.iload_n 3, 1) := by decide +kernel
theorem d_Mod_without_78 : decode m_Mod_without.2.1 78 = .ok (.baload, 1) := by decide +kernel
theorem d_Mod_without_79 : decode m_Mod_without.2.1 79 = .ok (.ifCond .eq 7, 3) := by decide +kernel
theorem d_Mod_without_82 : decode m_Mod_without.2.1 82 = .ok (.iconst 1, 1) := by decide +kernel
theorem d_Mod_without_83 : decode m_Mod_without.2.1 83 = .ok (.goto 4, 3) := by decide +kernel
theorem d_Mod_without_86 : decode m_Mod_without.2.1 86 = .ok (.iconst 0, 1) := by decide +kernel
theorem d_Mod_without_87 : decode m_Mod_without.2.1 87 = .ok (.aload_n 0, 1) := by decide +kernel
theorem d_Mod_without_88 : decode m_Mod_without.2.1 88 = .ok (.getfield 36, 3) := by decide +kernel
theorem d_Mod_without_91 : decode m_Mod_without.2.1 91 = .ok (.iload_n 2, 1) := by decide +kernel
theorem d_Mod_without_92 : decode m_Mod_without.2.1 92 = .ok (.laload, 1) := by decide +kernel
theorem d_Mod_without_93 : decode m_Mod_without.2.1 93 = .ok (.aload_n 0, 1) := by decide +kernel
theorem d_Mod_without_94 : decode m_Mod_without.2.1 94 = .ok (.getfield 36, 3) := by decide +kernel
theorem d_Mod_without_97 : decode m_Mod_without.2.1 97 = .ok (.iload_n 3, 1) := by decide +kernel
theorem d_Mod_without_98 : decode m_Mod_without.2.1 98 = .ok (.laload, 1) := by decide +kernel
theorem d_Mod_without_99 : decode m_Mod_without.2.1 99 = .ok (.ladd, 1) := by decide +kernel
theorem d_Mod_without_100 : decode m_Mod_without.2.1 100 = .ok (.invokevirtual 138, 3) := by decide +kernel
theorem d_Mod_without_103 : decode m_Mod_without.2.1 103 = .ok (.goto 189, 3) := by decide +kernel
theorem d_Mod_without_106 : decode m_Mod_without.2.1 106 = .ok (.iload_n 1, 1) := by decide +kernel
theorem d_Mod_without_107 : decode m_Mod_without.2.1 107 = .ok (.bipush 18, 2) := by decide +kernel
theorem d_Mod_without_109 : decode m_Mod_without.2.1 109 = .ok (.if_icmp .ne 87, 3) := by decide +kernel
theorem d_Mod_without_112 : decode m_Mod_without.2.1 112 = .ok (.aload_n 0, 1) := by decide +kernel
theorem d_Mod_without_113 : decode m_Mod_without.2.1 113 = .ok (.getfield 51, 3) := by decide +kernel
theorem d_Mod_without_116 : decode m_Mod_without.2.1 116 = .ok (.aload_n 0, 1) := by decide +kernel
theorem d_Mod_without_117 : decode m_Mod_without.2.1 117 = .ok (.getfield 142, 3) := by decide +kernel
theorem d_Mod_without_120 : decode m_Mod_without.2.1 120 = .ok (.iload_n 3, 1) := by decide +kernel
theorem d_Mod_without_121 : decode m_Mod_without.2.1 121 = .ok (.iastore, 1) := by decide +kernel
theorem d_Mod_without_122 : decode m_Mod_without.2.1 122 = .ok (.iconst 0, 1) := by decide +kernel
theorem d_Mod_without_123 : decode m_Mod_without.2.1 123 = .ok (.istore 5, 2) := by decide +kernel
theorem d_Mod_without_125 : decode m_Mod_without.2.1 125 = .ok (.iload 5, 2) := by decide +kernel
theorem d_Mod_without_127 : decode m_Mod_without.2.1 127 = .ok (.iload_n 3, 1) := by decide +kernel
theorem d_Mod_without_128 : decode m_Mod_without.2.1 128 = .ok (.if_icmp .ge 55, 3) := by decide +kernel
theorem d_Mod_without_131 : decode m_Mod_without.2.1 131 = .ok (.aload_n 0, 1) := by decide +kernel
theorem d_Mod_without_132 : decode m_Mod_without.2.1 132 = .ok (.getfield 54, 3) := by decide +kernel
theorem d_Mod_without_135 : decode m_Mod_without.2.1 135 = .ok (.iconst 4, 1) := by decide +kernel
theorem d_Mod_without_136 : decode m_Mod_without.2.1 136 = .ok (.aload_n 0, 1) := by decide +kernel
theorem d_Mod_without_137 : decode m_Mod_without.2.1 137 = .ok (.getfield 142, 3) := by decide +kernel
theorem d_Mod_without_140 : decode m_Mod_without.2.1 140 = .ok (.imul, 1) := by decide +kernel
theorem d_Mod_without_141 : decode m_Mod_without.2.1 141 = .ok (.iload 5, 2) := by decide +kernel
theorem d_Mod_without_143 : decode m_Mod_without.2.1 143 = .ok (.iadd, 1) := by decide +kernel
theorem d_Mod_without_144 : decode m_Mod_without.2.1 144 = .ok (.aload_n 0, 1) := by decide +kernel
theorem d_Mod_without_145 : decode m_Mod_without.2.1 145 = .ok (.getfield 36, 3) := by decide +kernel
theorem d_Mod_without_148 : decode m_Mod_without.2.1 148 = .ok (.iload_n 2, 1) := by decide +kernel
theorem d_Mod_without_149 : decode m_Mod_without.2.1 149 = .ok (.iload 5, 2) := by decide +kernel
theorem d_Mod_without_151 : decode m_Mod_without.2.1 151 = .ok (.iadd, 1) := by decide +kernel
theorem d_Mod_without_152 : decode m_Mod_without.2.1 152 = .ok (.laload, 1) := by decide +kernel
theorem d_Mod_without_153 : decode m_Mod_without.2.1 153 = .ok (.lastore, 1) := by decide +kernel
theorem d_Mod_without_154 : decode m_Mod_without.2.1 154 = .ok (.aload_n 0, 1) := by decide +kernel
theorem d_Mod_without_155 : decode m_Mod_without.2.1 155 = .ok (.getfield 57, 3) := by decide +kernel
theorem d_Mod_without_158 : decode m_Mod_without.2.1 158 = .ok (.iconst 4, 1) := by decide +kernel
theorem d_Mod_without_159 : decode m_Mod_without.2.1 159 = .ok (.aload_n 0, 1) := by decide +kernel
theorem d_Mod_without_160 : decode m_Mod_without.2.1 160 = .ok (.getfield 142, 3) := by decide +kernel
theorem d_Mod_without_163 : decode m_Mod_without.2.1 163 = .ok (.imul, 1) := by decide +kernel
theorem d_Mod_without_164 : decode m_Mod_without.2.1 164 = .ok (.iload 5, 2) := by decide +kernel
theorem d_Mod_without_166 : decode m_Mod_without.2.1 166 = .ok (.iadd, 1) := by decide +kernel
theorem d_Mod_without_167 : decode m_Mod_without.2.1 167 = .ok (.aload_n 0, 1) := by decide +kernel
theorem d_Mod_without_168 : decode m_Mod_without.2.1 168 = .ok (.getfield 39, 3) := by decide +kernel
theorem d_Mod_without_171 : decode m_Mod_without.2.1 171 = .ok (.iload_n 2, 1) := by decide +kernel
theorem d_Mod_without_172 : decode m_Mod_without.2.1 172 = .ok (.iload 5, 2) := by decide +kernel
theorem d_Mod_without_174 : decode m_Mod_without.2.1 174 = .ok (.iadd, 1) := by decide +kernel
theorem d_Mod_without_175 : decode m_Mod_without.2.1 175 = .ok (.baload, 1) := by decide +kernel
theorem d_Mod_without_176 : decode m_Mod_without.2.1 176 = .ok (.bastore, 1) := by decide +kernel
theorem d_Mod_without_177 : decode m_Mod_without.2.1 177 = .ok (.iinc 5 1, 3) := by decide +kernel
theorem d_Mod_without_180 : decode m_Mod_without.2.1 180 = .ok (.goto (-55), 3) := by decide +kernel
theorem d_Mod_without_183 : decode m_Mod_without.2.1 183 = .ok (.aload_n 0, 1) := by decide +kernel
theorem d_Mod_without_184 : decode m_Mod_without.2.1 184 = .ok (.dup, 1) := by decide +kernel
theorem d_Mod_without_185 : decode m_Mod_without.2.1 185 = .ok (.getfield 142, 3) := by decide +kernel
theorem d_Mod_without_188 : decode m_Mod_without.2.1 188 = .ok (.iconst 1, 1) := by decide +kernel
theorem d_Mod_without_189 : decode m_Mod_without.2.1 189 = .ok (.iadd, 1) := by decide +kernel
theorem d_Mod_without_190 : decode m_Mod_without.2.1 190 = .ok (.putfield 142, 3) := by decide +kernel
theorem d_Mod_without_193 : decode m_Mod_without.2.1 193 = .ok (.goto 99, 3) := by decide +kernel
theorem d_Mod_without_196 : decode m_Mod_without.2.1 196 = .ok (.iload_n 1, 1) := by decide +kernel
theorem d_Mod_without_197 : decode m_Mod_without.2.1 197 = .ok (.bipush 15, 2) := by decide +kernel
theorem d_Mod_without_199 : decode m_Mod_without.2.1 199 = .ok (.if_icmp .eq 9, 3) := by decide +kernel
theorem d_Mod_without_202 : decode m_Mod_without.2.1 202 = .ok (.iload_n 1, 1) := by decide +kernel
theorem d_Mod_without_203 : decode m_Mod_without.2.1 203 = .ok (.bipush 16, 2) := by decide +kernel
theorem d_Mod_without_205 : decode m_Mod_without.2.1 205 = .ok (.if_icmp .ne 29, 3) := by decide +kernel
theorem d_Mod_without_208 : decode m_Mod_without.2.1 208 = .ok (.aload_n 0, 1) := by decide +kernel
theorem d_Mod_without_209 : decode m_Mod_without.2.1 209 = .ok (.getfield 39, 3) := by decide +kernel
theorem d_Mod_without_212 : decode m_Mod_without.2.1 212 = .ok (.iload_n 2, 1) := by decide +kernel
theorem d_Mod_without_213 : decode m_Mod_without.2.1 213 = .ok (.baload, 1) := by decide +kernel
theorem d_Mod_without_214 : decode m_Mod_without.2.1 214 = .ok (.iload_n 1, 1) := by decide +kernel
theorem d_Mod_without_215 : decode m_Mod_without.2.1 215 = .ok (.bipush 16, 2) := by decide +kernel
theorem d_Mod_without_217 : decode m_Mod_without.2.1 217 = .ok (.if_icmp .ne 7, 3) := by decide +kernel
theorem d_Mod_without_220 : decode m_Mod_without.2.1 220 = .ok (.iconst 1, 1) := by decide +kernel
theorem d_Mod_without_221 : decode m_Mod_without.2.1 221 = .ok (.goto 4, 3) := by decide +kernel
theorem d_Mod_without_224 : decode m_Mod_without.2.1 224 = .ok (.iconst 0, 1) := by decide +kernel
theorem d_Mod_without_225 : decode m_Mod_without.2.1 225 = .ok (.if_icmp .ne 7, 3) := by decide +kernel
theorem d_Mod_without_228 : decode m_Mod_without.2.1 228 = .ok (.iconst 1, 1) := by decide +kernel
theorem d_Mod_without_229 : decode m_Mod_without.2.1 229 = .ok (.goto 4, 3) := by decide +kernel
theorem d_Mod_without_232 : decode m_Mod_without.2.1 232 = .ok (.iconst 0, 1) := by decide +kernel
theorem d_Mod_without_233 : decode m_Mod_without.2.1 233 = .ok (.ireturn, 1) := by decide +kernel
theorem d_Mod_without_234 : decode m_Mod_without.2.1 234 = .ok (.iload_n 1, 1) := by decide +kernel
theorem d_Mod_without_235 : decode m_Mod_without.2.1 235 = .ok (.bipush 9, 2) := by decide +kernel
theorem d_Mod_without_237 : decode m_Mod_without.2.1 237 = .ok (.if_icmp .lt 55, 3) := by decide +kernel
theorem d_Mod_without_240 : decode m_Mod_without.2.1 240 = .ok (.iload_n 1, 1) := by decide +kernel
theorem d_Mod_without_241 : decode m_Mod_without.2.1 241 = .ok (.bipush 15, 2) := by decide +kernel
theorem d_Mod_without_243 : decode m_Mod_without.2.1 243 = .ok (.if_icmp .ge 49, 3) := by decide +kernel
theorem d_Mod_without_246 : decode m_Mod_without.2.1 246 = .ok (.aload_n 0, 1) := by decide +kernel
theorem d_Mod_without_247 : decode m_Mod_without.2.1 247 = .ok (.getfield 39, 3) := by decide +kernel
theorem d_Mod_without_250 : decode m_Mod_without.2.1 250 = .ok (.iload_n 2, 1) := by decide +kernel
theorem d_Mod_without_251 : decode m_Mod_without.2.1 251 = .ok (.baload, 1) := by decide +kernel
theorem d_Mod_without_252 : decode m_Mod_without.2.1 252 = .ok (.ifCond .eq 38, 3) := by decide +kernel
theorem d_Mod_without_255 : decode m_Mod_without.2.1 255 = .ok (.aload_n 0, 1) := by decide +kernel
theorem d_Mod_without_256 : decode m_Mod_without.2.1 256 = .ok (.getfield 39, 3) := by decide +kernel
theorem d_Mod_without_259 : decode m_Mod_without.2.1 259 = .ok (.iload 4, 2) := by decide +kernel
theorem d_Mod_without_261 : decode m_Mod_without.2.1 261 = .ok (.baload, 1) := by decide +kernel
theorem d_Mod_without_262 : decode m_Mod_without.2.1 262 = .ok (.ifCond .eq 28, 3) := by decide +kernel
theorem d_Mod_without_265 : decode m_Mod_without.2.1 265 = .ok (.aload_n 0, 1) := by decide +kernel
theorem d_Mod_without_266 : decode m_Mod_without.2.1 266 = .ok (.iload_n 1, 1) := by decide +kernel
theorem d_Mod_without_267 : decode m_Mod_without.2.1 267 = .ok (.aload_n 0, 1) := by decide +kernel
theorem d_Mod_without_268 : decode m_Mod_without.2.1 268 = .ok (.getfield 36, 3) := by decide +kernel
theorem d_Mod_without_271 : decode m_Mod_without.2.1 271 = .ok (.iload_n 2, 1) := by decide +kernel
theorem d_Mod_without_272 : decode m_Mod_without.2.1 272 = .ok (.laload, 1) := by decide +kernel
theorem d_Mod_without_273 : decode m_Mod_without.2.1 273 = .ok (.aload_n 0, 1) := by decide +kernel
theorem d_Mod_without_274 : decode m_Mod_without.2.1 274 = .ok (.getfield 36, 3) := by decide +kernel
theorem d_Mod_without_277 : decode m_Mod_without.2.1 277 = .ok (.iload 4, 2) := by decide +kernel
theorem d_Mod_without_279 : decode m_Mod_without.2.1 279 = .ok (.laload, 1) := by decide +kernel
theorem d_Mod_without_280 : decode m_Mod_without.2.1 280 = .ok (.invokevirtual 145, 3) := by decide +kernel
theorem d_Mod_without_283 : decode m_Mod_without.2.1 283 = .ok (.ifCond .eq 7, 3) := by decide +kernel
theorem d_Mod_without_286 : decode m_Mod_without.2.1 286 = .ok (.iconst 1, 1) := by decide +kernel
theorem d_Mod_without_287 : decode m_Mod_without.2.1 287 = .ok (.goto 4, 3) := by decide +kernel
theorem d_Mod_without_290 : decode m_Mod_without.2.1 290 = .ok (.iconst 0, 1) := by decide +kernel
theorem d_Mod_without_291 : decode m_Mod_without.2.1 291 = .ok (.ireturn, 1) := by decide +kernel
theorem d_Mod_without_292 : decode m_Mod_without.2.1 292 = .ok (.iload_n 1, 1) := by decide +kernel
theorem d_Mod_without_293 : decode m_Mod_without.2.1 293 = .ok (.bipush 19, 2) := by decide +kernel
theorem d_Mod_without_295 : decode m_Mod_without.2.1 295 = .ok (.if_icmp .ne 7, 3) := by decide +kernel
theorem d_Mod_without_298 : decode m_Mod_without.2.1 298 = .ok (.iconst 1, 1) := by decide +kernel
theorem d_Mod_without_299 : decode m_Mod_without.2.1 299 = .ok (.goto 4, 3) := by decide +kernel
theorem d_Mod_without_302 : decode m_Mod_without.2.1 302 = .ok (.iconst 0, 1) := by decide +kernel
theorem d_Mod_without_303 : decode m_Mod_without.2.1 303 = .ok (.ireturn, 1) := by decide +kernel
theorem d_Mod_compares_0 : decode m_Mod_compares.2.1 0 = .ok (.iload_n 1, 1) := by decide +kernel
theorem d_Mod_compares_1 : decode m_Mod_compares.2.1 1 = .ok (.bipush 9, 2) := by decide +kernel
theorem d_Mod_compares_3 : decode m_Mod_compares.2.1 3 = .ok (.isub, 1) := by decide +kernel
theorem d_Mod_compares_4 : decode m_Mod_compares.2.1 4 = .ok (.istore 6, 2) := by decide +kernel
theorem d_Mod_compares_6 : decode m_Mod_compares.2.1 6 = .ok (.iload 6, 2) := by decide +kernel
theorem d_Mod_compares_8 : decode m_Mod_compares.2.1 8 = .ok (.ifCond .ne 18, 3) := by decide +kernel
theorem d_Mod_compares_11 : decode m_Mod_compares.2.1 11 = .ok (.lload_n 2, 1) := by decide +kernel
theorem d_Mod_compares_12 : decode m_Mod_compares.2.1 12 = .ok (.lload 4, 2) := by decide +kernel
theorem d_Mod_compares_14 : decode m_Mod_compares.2.1 14 = .ok (.lcmp, 1) := by decide +kernel
theorem d_Mod_compares_15 : decode m_Mod_compares.2.1 15 = .ok (.ifCond .ne 7, 3) := by decide +kernel
theorem d_Mod_compares_18 : decode m_Mod_compares.2.1 18 = .ok (.iconst 1, 1) := by decide +kernel
theorem d_Mod_compares_19 : decode m_Mod_compares.2.1 19 = .ok (.goto 103, 3) := by decide +kernel
theorem d_Mod_compares_22 : decode m_Mod_compares.2.1 22 = .ok (.iconst 0, 1) := by decide +kernel
theorem d_Mod_compares_23 : decode m_Mod_compares.2.1 23 = .ok (.goto 99, 3) := by decide +kernel
theorem d_Mod_compares_26 : decode m_Mod_compares.2.1 26 = .ok (.iload 6, 2) := by decide +kernel
theorem d_Mod_compares_28 : decode m_Mod_compares.2.1 28 = .ok (.iconst 1, 1) := by decide +kernel
theorem d_Mod_compares_29 : decode m_Mod_compares.2.1 29 = .ok (.if_icmp .ne 18, 3) := by decide +kernel
theorem d_Mod_compares_32 : decode m_Mod_compares.2.1 32 = .ok (.lload_n 2, 1) := by decide +kernel
theorem d_Mod_compares_33 : decode m_Mod_compares.2.1 33 = .ok (.lload 4, 2) := by decide +kernel
theorem d_Mod_compares_35 : decode m_Mod_compares.2.1 35 = .ok (.lcmp, 1) := by decide +kernel
theorem d_Mod_compares_36 : decode m_Mod_compares.2.1 36 = .ok (.ifCond .eq 7, 3) := by decide +kernel
theorem d_Mod_compares_39 : decode m_Mod_compares.2.1 39 = .ok (.iconst 1, 1) := by decide +kernel
theorem d_Mod_compares_40 : decode m_Mod_compares.2.1 40 = .ok (.goto 82, 3) := by decide +kernel
theorem d_Mod_compares_43 : decode m_Mod_compares.2.1 43 = .ok (.iconst 0, 1) := by decide +kernel
theorem d_Mod_compares_44 : decode m_Mod_compares.2.1 44 = .ok (.goto 78, 3) := by decide +kernel
theorem d_Mod_compares_47 : decode m_Mod_compares.2.1 47 = .ok (.iload 6, 2) := by decide +kernel
theorem d_Mod_compares_49 : decode m_Mod_compares.2.1 49 = .ok (.iconst 2, 1) := by decide +kernel
theorem d_Mod_compares_50 : decode m_Mod_compares.2.1 50 = .ok (.if_icmp .ne 18, 3) := by decide +kernel
theorem d_Mod_compares_53 : decode m_Mod_compares.2.1 53 = .ok (.lload_n 2, 1) := by decide +kernel
theorem d_Mod_compares_54 : decode m_Mod_compares.2.1 54 = .ok (.lload 4, 2) := by decide +kernel
theorem d_Mod_compares_56 : decode m_Mod_compares.2.1 56 = .ok (.lcmp, 1) := by decide +kernel
theorem d_Mod_compares_57 : decode m_Mod_compares.2.1 57 = .ok (.ifCond .ge 7, 3) := by decide +kernel
theorem d_Mod_compares_60 : decode m_Mod_compares.2.1 60 = .ok (.iconst 1, 1) := by decide +kernel
theorem d_Mod_compares_61 : decode m_Mod_compares.2.1 61 = .ok (.goto 61, 3) := by decide +kernel
theorem d_Mod_compares_64 : decode m_Mod_compares.2.1 64 = .ok (.iconst 0, 1) := by decide +kernel
theorem d_Mod_compares_65 : decode m_Mod_compares.2.1 65 = .ok (.goto 57, 3) := by decide +kernel
theorem d_Mod_compares_68 : decode m_Mod_compares.2.1 68 = .ok (.iload 6, 2) := by decide +kernel
theorem d_Mod_compares_70 : decode m_Mod_compares.2.1 70 = .ok (.iconst 3, 1) := by decide +kernel
theorem d_Mod_compares_71 : decode m_Mod_compares.2.1 71 = .ok (.if_icmp .ne 18, 3) := by decide +kernel
theorem d_Mod_compares_74 : decode m_Mod_compares.2.1 74 = .ok (.lload_n 2, 1) := by decide +kernel
theorem d_Mod_compares_75 : decode m_Mod_compares.2.1 75 = .ok (.lload 4, 2) := by decide +kernel
theorem d_Mod_compares_77 : decode m_Mod_compares.2.1 77 = .ok (.lcmp, 1) := by decide +kernel
theorem d_Mod_compares_78 : decode m_Mod_compares.2.1 78 = .ok (.ifCond .gt 7, 3) := by decide +kernel
theorem d_Mod_compares_81 : decode m_Mod_compares.2.1 81 = .ok (.iconst 1, 1) := by decide +kernel
theorem d_Mod_compares_82 : decode m_Mod_compares.2.1 82 = .ok (.goto 40, 3) := by decide +kernel
theorem d_Mod_compares_85 : decode m_Mod_compares.2.1 85 = .ok (.iconst 0, 1) := by decide +kernel
theorem d_Mod_compares_86 : decode m_Mod_compares.2.1 86 = .ok (.goto 36, 3) := by decide +kernel
theorem d_Mod_compares_89 : decode m_Mod_compares.2.1 89 = .ok (.iload 6, 2) := by decide +kernel
theorem d_Mod_compares_91 : decode m_Mod_compares.2.1 91 = .ok (.iconst 4, 1) := by decide +kernel
theorem d_Mod_compares_92 : decode m_Mod_compares.2.1 92 = .ok (.if_icmp .ne 18, 3) := by decide +kernel
theorem d_Mod_compares_95 : decode m_Mod_compares.2.1 95 = .ok (.lload_n 2, 1) := by decide +kernel
theorem d_Mod_compares_96 : decode m_Mod_compares.2.1 96 = .ok (.lload 4, 2) := by decide +kernel
theorem d_Mod_compares_98 : decode m_Mod_compares.2.1 98 = .ok (.lcmp, 1) := by decide +kernel
theorem d_Mod_compares_99 : decode m_Mod_compares.2.1 99 = .ok (.ifCond .le 7, 3) := by decide +kernel
theorem d_Mod_compares_102 : decode m_Mod_compares.2.1 102 = .ok (.iconst 1, 1) := by decide +kernel
theorem d_Mod_compares_103 : decode m_Mod_compares.2.1 103 = .ok (.goto 19, 3) := by decide +kernel
theorem d_Mod_compares_106 : decode m_Mod_compares.2.1 106 = .ok (.iconst 0, 1) := by decide +kernel
theorem d_Mod_compares_107 : decode m_Mod_compares.2.1 107 = .ok (.goto 15, 3) := by decide +kernel
theorem d_Mod_compares_110 : decode m_Mod_compares.2.1 110 = .ok (.lload_n 2, 1) := by decide +kernel
theorem d_Mod_compares_111 : decode m_Mod_compares.2.1 111 = .ok (.lload 4, 2) := by decide +kernel
theorem d_Mod_compares_113 : decode m_Mod_compares.2.1 113 = .ok (.lcmp, 1) := by decide +kernel
theorem d_Mod_compares_114 : decode m_Mod_compares.2.1 114 = .ok (.ifCond .lt 7, 3) := by decide +kernel
theorem d_Mod_compares_117 : decode m_Mod_compares.2.1 117 = .ok (.iconst 1, 1) := by decide +kernel
theorem d_Mod_compares_118 : decode m_Mod_compares.2.1 118 = .ok (.goto 4, 3) := by decide +kernel
theorem d_Mod_compares_121 : decode m_Mod_compares.2.1 121 = .ok (.iconst 0, 1) := by decide +kernel
theorem d_Mod_compares_122 : decode m_Mod_compares.2.1 122 = .ok (.ireturn, 1) := by decide +kernel
theorem d_Mod_result_0 : decode m_Mod_result.2.1 0 = .ok (.aload_n 0, 1) := by decide +kernel
theorem d_Mod_result_1 : decode m_Mod_result.2.1 1 = .ok (.iconst 0, 1) := by decide +kernel
theorem d_Mod_result_2 : decode m_Mod_result.2.1 2 = .ok (.putfield 73, 3) := by decide +kernel
theorem d_Mod_result_5 : decode m_Mod_result.2.1 5 = .ok (.iload_n 1, 1) := by decide +kernel
theorem d_Mod_result_6 : decode m_Mod_result.2.1 6 = .ok (.iconst (-1), 1) := by decide +kernel
theorem d_Mod_result_7 : decode m_Mod_result.2.1 7 = .ok (.if_icmp .ne 9, 3) := by decide +kernel
theorem d_Mod_result_10 : decode m_Mod_result.2.1 10 = .ok (.aload_n 0, 1) := by decide +kernel
theorem d_Mod_result_11 : decode m_Mod_result.2.1 11 = .ok (.getfield 142, 3) := by decide +kernel
theorem d_Mod_result_14 : decode m_Mod_result.2.1 14 = .ok (.i2l, 1) := by decide +kernel
theorem d_Mod_result_15 : decode m_Mod_result.2.1 15 = .ok (.lreturn, 1) := by decide +kernel
theorem d_Mod_result_16 : decode m_Mod_result.2.1 16 = .ok (.aload_n 0, 1) := by decide +kernel
theorem d_Mod_result_17 : decode m_Mod_result.2.1 17 = .ok (.iload_n 1, 1) := by decide +kernel
theorem d_Mod_result_18 : decode m_Mod_result.2.1 18 = .ok (.ifCond .lt 11, 3) := by decide +kernel
theorem d_Mod_result_21 : decode m_Mod_result.2.1 21 = .ok (.iload_n 1, 1) := by decide +kernel
theorem d_Mod_result_22 : decode m_Mod_result.2.1 22 = .ok (.aload_n 0, 1) := by decide +kernel
theorem d_Mod_result_23 : decode m_Mod_result.2.1 23 = .ok (.getfield 142, 3) := by decide +kernel
theorem d_Mod_result_26 : decode m_Mod_result.2.1 26 = .ok (.if_icmp .lt 7, 3) := by decide +kernel
theorem d_Mod_result_29 : decode m_Mod_result.2.1 29 = .ok (.iconst 1, 1) := by decide +kernel
theorem d_Mod_result_30 : decode m_Mod_result.2.1 30 = .ok (.goto 4, 3) := by decide +kernel
theorem d_Mod_result_33 : decode m_Mod_result.2.1 33 = .ok (.iconst 0, 1) := by decide +kernel
theorem d_Mod_result_34 : decode m_Mod_result.2.1 34 = .ok (.putfield 73, 3) := by decide +kernel
theorem d_Mod_result_37 : decode m_Mod_result.2.1 37 = .ok (.aload_n 0, 1) := by decide +kernel
theorem d_Mod_result_38 : decode m_Mod_result.2.1 38 = .ok (.getfield 73, 3) := by decide +kernel
theorem d_Mod_result_41 : decode m_Mod_result.2.1 41 = .ok (.ifCond .le 5, 3) := by decide +kernel
theorem d_Mod_result_44 : decode m_Mod_result.2.1 44 = .ok (.lconst 0, 1) := by decide +kernel
theorem d_Mod_result_45 : decode m_Mod_result.2.1 45 = .ok (.lreturn, 1) := by decide +kernel
theorem d_Mod_result_46 : decode m_Mod_result.2.1 46 = .ok (.aload_n 0, 1) := by decide +kernel
theorem d_Mod_result_47 : decode m_Mod_result.2.1 47 = .ok (.iload_n 2, 1) := by decide +kernel
theorem d_Mod_result_48 : decode m_Mod_result.2.1 48 = .ok (.iconst (-1), 1) := by decide +kernel
theorem d_Mod_result_49 : decode m_Mod_result.2.1 49 = .ok (.if_icmp .lt 13, 3) := by decide +kernel
theorem d_Mod_result_52 : decode m_Mod_result.2.1 52 = .ok (.iload_n 2, 1) := by decide +kernel
theorem d_Mod_result_53 : decode m_Mod_result.2.1 53 = .ok (.aload_n 0, 1) := by decide +kernel
theorem d_Mod_result_54 : decode m_Mod_result.2.1 54 = .ok (.getfield 51, 3) := by decide +kernel
theorem d_Mod_result_57 : decode m_Mod_result.2.1 57 = .ok (.iload_n 1, 1) := by decide +kernel
theorem d_Mod_result_58 : decode m_Mod_result.2.1 58 = .ok (.iaload, 1) := by decide +kernel
theorem d_Mod_result_59 : decode m_Mod_result.2.1 59 = .ok (.if_icmp .lt 7, 3) := by decide +kernel
theorem d_Mod_result_62 : decode m_Mod_result.2.1 62 = .ok (.iconst 1, 1) := by decide +kernel
theorem d_Mod_result_63 : decode m_Mod_result.2.1 63 = .ok (.goto 4, 3) := by decide +kernel
theorem d_Mod_result_66 : decode m_Mod_result.2.1 66 = .ok (.iconst 0, 1) := by decide +kernel
theorem d_Mod_result_67 : decode m_Mod_result.2.1 67 = .ok (.putfield 73, 3) := by decide +kernel
theorem d_Mod_result_70 : decode m_Mod_result.2.1 70 = .ok (.aload_n 0, 1) := by decide +kernel
theorem d_Mod_result_71 : decode m_Mod_result.2.1 71 = .ok (.getfield 73, 3) := by decide +kernel
theorem d_Mod_result_74 : decode m_Mod_result.2.1 74 = .ok (.ifCond .le 7, 3) := by decide +kernel
theorem d_Mod_result_77 : decode m_Mod_result.2.1 77 = .ok (.lconst 0, 1) := by decide +kernel
theorem d_Mod_result_78 : decode m_Mod_result.2.1 78 = .ok (.goto 28, 3) := by decide +kernel
theorem d_Mod_result_81 : decode m_Mod_result.2.1 81 = .ok (.iload_n 2, 1) := by decide +kernel
theorem d_Mod_result_82 : decode m_Mod_result.2.1 82 = .ok (.iconst (-1), 1) := by decide +kernel
theorem d_Mod_result_83 : decode m_Mod_result.2.1 83 = .ok (.if_icmp .ne 13, 3) := by decide +kernel
theorem d_Mod_result_86 : decode m_Mod_result.2.1 86 = .ok (.aload_n 0, 1) := by decide +kernel
theorem d_Mod_result_87 : decode m_Mod_result.2.1 87 = .ok (.getfield 51, 3) := by decide +kernel
theorem d_Mod_result_90 : decode m_Mod_result.2.1 90 = .ok (.iload_n 1, 1) := by decide +kernel
theorem d_Mod_result_91 : decode m_Mod_result.2.1 91 = .ok (.iaload, 1) := by decide +kernel
theorem d_Mod_result_92 : decode m_Mod_result.2.1 92 = .ok (.i2l, 1) := by decide +kernel
theorem d_Mod_result_93 : decode m_Mod_result.2.1 93 = .ok (.goto 13, 3) := by decide +kernel
theorem d_Mod_result_96 : decode m_Mod_result.2.1 96 = .ok (.aload_n 0, 1) := by decide +kernel
theorem d_Mod_result_97 : decode m_Mod_result.2.1 97 = .ok (.getfield 54, 3) := by decide +kernel
theorem d_Mod_result_100 : decode m_Mod_result.2.1 100 = .ok (.iconst 4, 1) := by decide +kernel
theorem d_Mod_result_101 : decode m_Mod_result.2.1 101 = .ok (.iload_n 1, 1) := by decide +kernel
theorem d_Mod_result_102 : decode m_Mod_result.2.1 102 = .ok (.imul, 1) := by decide +kernel
theorem d_Mod_result_103 : decode m_Mod_result.2.1 103 = .ok (.iload_n 2, 1) := by decide +kernel
theorem d_Mod_result_104 : decode m_Mod_result.2.1 104 = .ok (.iadd, 1) := by decide +kernel
theorem d_Mod_result_105 : decode m_Mod_result.2.1 105 = .ok (.laload, 1) := by decide +kernel
theorem d_Mod_result_106 : decode m_Mod_result.2.1 106 = .ok (.lreturn, 1) := by decide +kernel
theorem d_Mod_wasNull_0 : decode m_Mod_wasNull.2.1 0 = .ok (.aload_n 0, 1) := by decide +kernel
theorem d_Mod_wasNull_1 : decode m_Mod_wasNull.2.1 1 = .ok (.iload_n 1, 1) := by decide +kernel
theorem d_Mod_wasNull_2 : decode m_Mod_wasNull.2.1 2 = .ok (.ifCond .lt 11, 3) := by decide +kernel
theorem d_Mod_wasNull_5 : decode m_Mod_wasNull.2.1 5 = .ok (.iload_n 1, 1) := by decide +kernel
theorem d_Mod_wasNull_6 : decode m_Mod_wasNull.2.1 6 = .ok (.aload_n 0, 1) := by decide +kernel
theorem d_Mod_wasNull_7 : decode m_Mod_wasNull.2.1 7 = .ok (.getfield 142, 3) := by decide +kernel
theorem d_Mod_wasNull_10 : decode m_Mod_wasNull.2.1 10 = .ok (.if_icmp .lt 7, 3) := by decide +kernel
theorem d_Mod_wasNull_13 : decode m_Mod_wasNull.2.1 13 = .ok (.iconst 1, 1) := by decide +kernel
theorem d_Mod_wasNull_14 : decode m_Mod_wasNull.2.1 14 = .ok (.goto 4, 3) := by decide +kernel
theorem d_Mod_wasNull_17 : decode m_Mod_wasNull.2.1 17 = .ok (.iconst 0, 1) := by decide +kernel
theorem d_Mod_wasNull_18 : decode m_Mod_wasNull.2.1 18 = .ok (.putfield 73, 3) := by decide +kernel
theorem d_Mod_wasNull_21 : decode m_Mod_wasNull.2.1 21 = .ok (.aload_n 0, 1) := by decide +kernel
theorem d_Mod_wasNull_22 : decode m_Mod_wasNull.2.1 22 = .ok (.getfield 73, 3) := by decide +kernel
theorem d_Mod_wasNull_25 : decode m_Mod_wasNull.2.1 25 = .ok (.ifCond .le 5, 3) := by decide +kernel
theorem d_Mod_wasNull_28 : decode m_Mod_wasNull.2.1 28 = .ok (.iconst 0, 1) := by decide +kernel
theorem d_Mod_wasNull_29 : decode m_Mod_wasNull.2.1 29 = .ok (.ireturn, 1) := by decide +kernel
theorem d_Mod_wasNull_30 : decode m_Mod_wasNull.2.1 30 = .ok (.aload_n 0, 1) := by decide +kernel
theorem d_Mod_wasNull_31 : decode m_Mod_wasNull.2.1 31 = .ok (.iload_n 2, 1) := by decide +kernel
theorem d_Mod_wasNull_32 : decode m_Mod_wasNull.2.1 32 = .ok (.ifCond .lt 13, 3) := by decide +kernel
theorem d_Mod_wasNull_35 : decode m_Mod_wasNull.2.1 35 = .ok (.iload_n 2, 1) := by decide +kernel
theorem d_Mod_wasNull_36 : decode m_Mod_wasNull.2.1 36 = .ok (.aload_n 0, 1) := by decide +kernel
theorem d_Mod_wasNull_37 : decode m_Mod_wasNull.2.1 37 = .ok (.getfield 51, 3) := by decide +kernel
theorem d_Mod_wasNull_40 : decode m_Mod_wasNull.2.1 40 = .ok (.iload_n 1, 1) := by decide +kernel
theorem d_Mod_wasNull_41 : decode m_Mod_wasNull.2.1 41 = .ok (.iaload, 1) := by decide +kernel
theorem d_Mod_wasNull_42 : decode m_Mod_wasNull.2.1 42 = .ok (.if_icmp .lt 7, 3) := by decide +kernel
theorem d_Mod_wasNull_45 : decode m_Mod_wasNull.2.1 45 = .ok (.iconst 1, 1) := by decide +kernel
theorem d_Mod_wasNull_46 : decode m_Mod_wasNull.2.1 46 = .ok (.goto 4, 3) := by decide +kernel
theorem d_Mod_wasNull_49 : decode m_Mod_wasNull.2.1 49 = .ok (.iconst 0, 1) := by decide +kernel
theorem d_Mod_wasNull_50 : decode m_Mod_wasNull.2.1 50 = .ok (.putfield 73, 3) := by decide +kernel
theorem d_Mod_wasNull_53 : decode m_Mod_wasNull.2.1 53 = .ok (.aload_n 0, 1) := by decide +kernel
theorem d_Mod_wasNull_54 : decode m_Mod_wasNull.2.1 54 = .ok (.getfield 73, 3) := by decide +kernel
theorem d_Mod_wasNull_57 : decode m_Mod_wasNull.2.1 57 = .ok (.ifCond .ne 20, 3) := by decide +kernel
theorem d_Mod_wasNull_60 : decode m_Mod_wasNull.2.1 60 = .ok (.aload_n 0, 1) := by decide +kernel
theorem d_Mod_wasNull_61 : decode m_Mod_wasNull.2.1 61 = .ok (.getfield 57, 3) := by decide +kernel
theorem d_Mod_wasNull_64 : decode m_Mod_wasNull.2.1 64 = .ok (.iconst 4, 1) := by decide +kernel
theorem d_Mod_wasNull_65 : decode m_Mod_wasNull.2.1 65 = .ok (.iload_n 1, 1) := by decide +kernel
theorem d_Mod_wasNull_66 : decode m_Mod_wasNull.2.1 66 = .ok (.imul, 1) := by decide +kernel
theorem d_Mod_wasNull_67 : decode m_Mod_wasNull.2.1 67 = .ok (.iload_n 2, 1) := by decide +kernel
theorem d_Mod_wasNull_68 : decode m_Mod_wasNull.2.1 68 = .ok (.iadd, 1) := by decide +kernel
theorem d_Mod_wasNull_69 : decode m_Mod_wasNull.2.1 69 = .ok (.baload, 1) := by decide +kernel
theorem d_Mod_wasNull_70 : decode m_Mod_wasNull.2.1 70 = .ok (.ifCond .ne 7, 3) := by decide +kernel
theorem d_Mod_wasNull_73 : decode m_Mod_wasNull.2.1 73 = .ok (.iconst 1, 1) := by decide +kernel
theorem d_Mod_wasNull_74 : decode m_Mod_wasNull.2.1 74 = .ok (.goto 4, 3) := by decide +kernel
theorem d_Mod_wasNull_77 : decode m_Mod_wasNull.2.1 77 = .ok (.iconst 0, 1) := by decide +kernel
theorem d_Mod_wasNull_78 : decode m_Mod_wasNull.2.1 78 = .ok (.ireturn, 1) := by decide +kernel
theorem d_Mod_ask_0 : decode m_Mod_ask.2.1 0 = .ok (.aload_n 0, 1) := by decide +kernel
theorem d_Mod_ask_1 : decode m_Mod_ask.2.1 1 = .ok (.iconst 0, 1) := by decide +kernel
theorem d_Mod_ask_2 : decode m_Mod_ask.2.1 2 = .ok (.putfield 73, 3) := by decide +kernel
theorem d_Mod_ask_5 : decode m_Mod_ask.2.1 5 = .ok (.aload_n 0, 1) := by decide +kernel
theorem d_Mod_ask_6 : decode m_Mod_ask.2.1 6 = .ok (.iload_n 1, 1) := by decide +kernel
theorem d_Mod_ask_7 : decode m_Mod_ask.2.1 7 = .ok (.invokevirtual 82, 3) := by decide +kernel
theorem d_Mod_ask_10 : decode m_Mod_ask.2.1 10 = .ok (.ifCond .eq 16, 3) := by decide +kernel
theorem d_Mod_ask_13 : decode m_Mod_ask.2.1 13 = .ok (.iload_n 2, 1) := by decide +kernel
theorem d_Mod_ask_14 : decode m_Mod_ask.2.1 14 = .ok (.iconst (-1), 1) := by decide +kernel
theorem d_Mod_ask_15 : decode m_Mod_ask.2.1 15 = .ok (.if_icmp .eq 13, 3) := by decide +kernel
theorem d_Mod_ask_18 : decode m_Mod_ask.2.1 18 = .ok (.aload_n 0, 1) := by decide +kernel
theorem d_Mod_ask_19 : decode m_Mod_ask.2.1 19 = .ok (.iload_n 2, 1) := by decide +kernel
theorem d_Mod_ask_20 : decode m_Mod_ask.2.1 20 = .ok (.invokevirtual 82, 3) := by decide +kernel
theorem d_Mod_ask_23 : decode m_Mod_ask.2.1 23 = .ok (.ifCond .ne 5, 3) := by decide +kernel
theorem d_Mod_ask_26 : decode m_Mod_ask.2.1 26 = .ok (.iconst 0, 1) := by decide +kernel
theorem d_Mod_ask_27 : decode m_Mod_ask.2.1 27 = .ok (.ireturn, 1) := by decide +kernel
theorem d_Mod_ask_28 : decode m_Mod_ask.2.1 28 = .ok (.aload_n 0, 1) := by decide +kernel
theorem d_Mod_ask_29 : decode m_Mod_ask.2.1 29 = .ok (.iload_n 1, 1) := by decide +kernel
theorem d_Mod_ask_30 : decode m_Mod_ask.2.1 30 = .ok (.putfield 60, 3) := by decide +kernel
theorem d_Mod_ask_33 : decode m_Mod_ask.2.1 33 = .ok (.aload_n 0, 1) := by decide +kernel
theorem d_Mod_ask_34 : decode m_Mod_ask.2.1 34 = .ok (.iload_n 2, 1) := by decide +kernel
theorem d_Mod_ask_35 : decode m_Mod_ask.2.1 35 = .ok (.putfield 64, 3) := by decide +kernel
theorem d_Mod_ask_38 : decode m_Mod_ask.2.1 38 = .ok (.aload_n 0, 1) := by decide +kernel
theorem d_Mod_ask_39 : decode m_Mod_ask.2.1 39 = .ok (.iconst 0, 1) := by decide +kernel
theorem d_Mod_ask_40 : decode m_Mod_ask.2.1 40 = .ok (.putfield 171, 3) := by decide +kernel
theorem d_Mod_ask_43 : decode m_Mod_ask.2.1 43 = .ok (.aload_n 0, 1) := by decide +kernel
theorem d_Mod_ask_44 : decode m_Mod_ask.2.1 44 = .ok (.iconst 0, 1) := by decide +kernel
theorem d_Mod_ask_45 : decode m_Mod_ask.2.1 45 = .ok (.putfield 174, 3) := by decide +kernel
theorem d_Mod_ask_48 : decode m_Mod_ask.2.1 48 = .ok (.aload_n 0, 1) := by decide +kernel
theorem d_Mod_ask_49 : decode m_Mod_ask.2.1 49 = .ok (.iconst 0, 1) := by decide +kernel
theorem d_Mod_ask_50 : decode m_Mod_ask.2.1 50 = .ok (.putfield 177, 3) := by decide +kernel
theorem d_Mod_ask_53 : decode m_Mod_ask.2.1 53 = .ok (.iconst 1, 1) := by decide +kernel
theorem d_Mod_ask_54 : decode m_Mod_ask.2.1 54 = .ok (.ireturn, 1) := by decide +kernel
theorem d_Mod_output_0 : decode m_Mod_output.2.1 0 = .ok (.aload_n 0, 1) := by decide +kernel
theorem d_Mod_output_1 : decode m_Mod_output.2.1 1 = .ok (.iconst 0, 1) := by decide +kernel
theorem d_Mod_output_2 : decode m_Mod_output.2.1 2 = .ok (.putfield 73, 3) := by decide +kernel
theorem d_Mod_output_5 : decode m_Mod_output.2.1 5 = .ok (.aload_n 0, 1) := by decide +kernel
theorem d_Mod_output_6 : decode m_Mod_output.2.1 6 = .ok (.getfield 171, 3) := by decide +kernel
theorem d_Mod_output_9 : decode m_Mod_output.2.1 9 = .ok (.iconst 4, 1) := by decide +kernel
theorem d_Mod_output_10 : decode m_Mod_output.2.1 10 = .ok (.if_icmp .eq 12, 3) := by decide +kernel
theorem d_Mod_output_13 : decode m_Mod_output.2.1 13 = .ok (.aload_n 0, 1) := by decide +kernel
end
section
theorem d_Mod_output_14 : decode m_Mod_output.2.1 14 = .ok (.iload_n 1, 1) := by decide +kernel
theorem d_Mod_output_15 : decode m_Mod_output.2.1 15 = .ok (.iload_n 2, 1) := by decide +kernel
theorem d_Mod_output_16 : decode m_Mod_output.2.1 16 = .ok (.invokevirtual 184, 3) := by decide +kernel
theorem d_Mod_output_19 : decode m_Mod_output.2.1 19 = .ok (.ifCond .ne 5, 3) := by decide +kernel
theorem d_Mod_output_22 : decode m_Mod_output.2.1 22 = .ok (.iconst 0, 1) := by decide +kernel
theorem d_Mod_output_23 : decode m_Mod_output.2.1 23 = .ok (.ireturn, 1) := by decide +kernel
theorem d_Mod_output_24 : decode m_Mod_output.2.1 24 = .ok (.aload_n 0, 1) := by decide +kernel
theorem d_Mod_output_25 : decode m_Mod_output.2.1 25 = .ok (.getfield 67, 3) := by decide +kernel
theorem d_Mod_output_28 : decode m_Mod_output.2.1 28 = .ok (.iconst 2, 1) := by decide +kernel
theorem d_Mod_output_29 : decode m_Mod_output.2.1 29 = .ok (.aload_n 0, 1) := by decide +kernel
theorem d_Mod_output_30 : decode m_Mod_output.2.1 30 = .ok (.getfield 171, 3) := by decide +kernel
theorem d_Mod_output_33 : decode m_Mod_output.2.1 33 = .ok (.imul, 1) := by decide +kernel
theorem d_Mod_output_34 : decode m_Mod_output.2.1 34 = .ok (.iload_n 1, 1) := by decide +kernel
theorem d_Mod_output_35 : decode m_Mod_output.2.1 35 = .ok (.iastore, 1) := by decide +kernel
theorem d_Mod_output_36 : decode m_Mod_output.2.1 36 = .ok (.aload_n 0, 1) := by decide +kernel
theorem d_Mod_output_37 : decode m_Mod_output.2.1 37 = .ok (.getfield 67, 3) := by decide +kernel
theorem d_Mod_output_40 : decode m_Mod_output.2.1 40 = .ok (.iconst 2, 1) := by decide +kernel
theorem d_Mod_output_41 : decode m_Mod_output.2.1 41 = .ok (.aload_n 0, 1) := by decide +kernel
theorem d_Mod_output_42 : decode m_Mod_output.2.1 42 = .ok (.getfield 171, 3) := by decide +kernel
theorem d_Mod_output_45 : decode m_Mod_output.2.1 45 = .ok (.imul, 1) := by decide +kernel
theorem d_Mod_output_46 : decode m_Mod_output.2.1 46 = .ok (.iconst 1, 1) := by decide +kernel
theorem d_Mod_output_47 : decode m_Mod_output.2.1 47 = .ok (.iadd, 1) := by decide +kernel
theorem d_Mod_output_48 : decode m_Mod_output.2.1 48 = .ok (.iload_n 2, 1) := by decide +kernel
theorem d_Mod_output_49 : decode m_Mod_output.2.1 49 = .ok (.iastore, 1) := by decide +kernel
theorem d_Mod_output_50 : decode m_Mod_output.2.1 50 = .ok (.aload_n 0, 1) := by decide +kernel
theorem d_Mod_output_51 : decode m_Mod_output.2.1 51 = .ok (.dup, 1) := by decide +kernel
theorem d_Mod_output_52 : decode m_Mod_output.2.1 52 = .ok (.getfield 171, 3) := by decide +kernel
theorem d_Mod_output_55 : decode m_Mod_output.2.1 55 = .ok (.iconst 1, 1) := by decide +kernel
theorem d_Mod_output_56 : decode m_Mod_output.2.1 56 = .ok (.iadd, 1) := by decide +kernel
theorem d_Mod_output_57 : decode m_Mod_output.2.1 57 = .ok (.putfield 171, 3) := by decide +kernel
theorem d_Mod_output_60 : decode m_Mod_output.2.1 60 = .ok (.iconst 1, 1) := by decide +kernel
theorem d_Mod_output_61 : decode m_Mod_output.2.1 61 = .ok (.ireturn, 1) := by decide +kernel
theorem d_Mod_isColumn_0 : decode m_Mod_isColumn.2.1 0 = .ok (.aload_n 0, 1) := by decide +kernel
theorem d_Mod_isColumn_1 : decode m_Mod_isColumn.2.1 1 = .ok (.iload_n 1, 1) := by decide +kernel
theorem d_Mod_isColumn_2 : decode m_Mod_isColumn.2.1 2 = .ok (.invokevirtual 181, 3) := by decide +kernel
theorem d_Mod_isColumn_5 : decode m_Mod_isColumn.2.1 5 = .ok (.istore_n 3, 1) := by decide +kernel
theorem d_Mod_isColumn_6 : decode m_Mod_isColumn.2.1 6 = .ok (.iload_n 3, 1) := by decide +kernel
theorem d_Mod_isColumn_7 : decode m_Mod_isColumn.2.1 7 = .ok (.ifCond .lt 30, 3) := by decide +kernel
theorem d_Mod_isColumn_10 : decode m_Mod_isColumn.2.1 10 = .ok (.iload_n 2, 1) := by decide +kernel
theorem d_Mod_isColumn_11 : decode m_Mod_isColumn.2.1 11 = .ok (.iconst (-1), 1) := by decide +kernel
theorem d_Mod_isColumn_12 : decode m_Mod_isColumn.2.1 12 = .ok (.if_icmp .lt 25, 3) := by decide +kernel
theorem d_Mod_isColumn_15 : decode m_Mod_isColumn.2.1 15 = .ok (.iload_n 2, 1) := by decide +kernel
theorem d_Mod_isColumn_16 : decode m_Mod_isColumn.2.1 16 = .ok (.aload_n 0, 1) := by decide +kernel
theorem d_Mod_isColumn_17 : decode m_Mod_isColumn.2.1 17 = .ok (.getfield 7, 3) := by decide +kernel
theorem d_Mod_isColumn_20 : decode m_Mod_isColumn.2.1 20 = .ok (.iload_n 3, 1) := by decide +kernel
theorem d_Mod_isColumn_21 : decode m_Mod_isColumn.2.1 21 = .ok (.ifCond .ge 7, 3) := by decide +kernel
theorem d_Mod_isColumn_24 : decode m_Mod_isColumn.2.1 24 = .ok (.iconst 0, 1) := by decide +kernel
theorem d_Mod_isColumn_25 : decode m_Mod_isColumn.2.1 25 = .ok (.goto 4, 3) := by decide +kernel
theorem d_Mod_isColumn_28 : decode m_Mod_isColumn.2.1 28 = .ok (.iload_n 3, 1) := by decide +kernel
theorem d_Mod_isColumn_29 : decode m_Mod_isColumn.2.1 29 = .ok (.iaload, 1) := by decide +kernel
theorem d_Mod_isColumn_30 : decode m_Mod_isColumn.2.1 30 = .ok (.if_icmp .ge 7, 3) := by decide +kernel
theorem d_Mod_isColumn_33 : decode m_Mod_isColumn.2.1 33 = .ok (.iconst 1, 1) := by decide +kernel
theorem d_Mod_isColumn_34 : decode m_Mod_isColumn.2.1 34 = .ok (.goto 4, 3) := by decide +kernel
theorem d_Mod_isColumn_37 : decode m_Mod_isColumn.2.1 37 = .ok (.iconst 0, 1) := by decide +kernel
theorem d_Mod_isColumn_38 : decode m_Mod_isColumn.2.1 38 = .ok (.ireturn, 1) := by decide +kernel
theorem d_Mod_tableOf_0 : decode m_Mod_tableOf.2.1 0 = .ok (.iload_n 1, 1) := by decide +kernel
theorem d_Mod_tableOf_1 : decode m_Mod_tableOf.2.1 1 = .ok (.ifCond .ne 10, 3) := by decide +kernel
theorem d_Mod_tableOf_4 : decode m_Mod_tableOf.2.1 4 = .ok (.aload_n 0, 1) := by decide +kernel
theorem d_Mod_tableOf_5 : decode m_Mod_tableOf.2.1 5 = .ok (.getfield 60, 3) := by decide +kernel
theorem d_Mod_tableOf_8 : decode m_Mod_tableOf.2.1 8 = .ok (.goto 16, 3) := by decide +kernel
theorem d_Mod_tableOf_11 : decode m_Mod_tableOf.2.1 11 = .ok (.iload_n 1, 1) := by decide +kernel
theorem d_Mod_tableOf_12 : decode m_Mod_tableOf.2.1 12 = .ok (.iconst 1, 1) := by decide +kernel
theorem d_Mod_tableOf_13 : decode m_Mod_tableOf.2.1 13 = .ok (.if_icmp .ne 10, 3) := by decide +kernel
theorem d_Mod_tableOf_16 : decode m_Mod_tableOf.2.1 16 = .ok (.aload_n 0, 1) := by decide +kernel
theorem d_Mod_tableOf_17 : decode m_Mod_tableOf.2.1 17 = .ok (.getfield 64, 3) := by decide +kernel
theorem d_Mod_tableOf_20 : decode m_Mod_tableOf.2.1 20 = .ok (.goto 4, 3) := by decide +kernel
theorem d_Mod_tableOf_23 : decode m_Mod_tableOf.2.1 23 = .ok (.iconst (-1), 1) := by decide +kernel
theorem d_Mod_tableOf_24 : decode m_Mod_tableOf.2.1 24 = .ok (.ireturn, 1) := by decide +kernel
theorem d_Mod_condition_0 : decode m_Mod_condition.2.1 0 = .ok (.aload_n 0, 1) := by decide +kernel
theorem d_Mod_condition_1 : decode m_Mod_condition.2.1 1 = .ok (.iconst 0, 1) := by decide +kernel
theorem d_Mod_condition_2 : decode m_Mod_condition.2.1 2 = .ok (.putfield 73, 3) := by decide +kernel
theorem d_Mod_condition_5 : decode m_Mod_condition.2.1 5 = .ok (.aload_n 0, 1) := by decide +kernel
theorem d_Mod_condition_6 : decode m_Mod_condition.2.1 6 = .ok (.getfield 174, 3) := by decide +kernel
theorem d_Mod_condition_9 : decode m_Mod_condition.2.1 9 = .ok (.iconst 4, 1) := by decide +kernel
theorem d_Mod_condition_10 : decode m_Mod_condition.2.1 10 = .ok (.if_icmp .eq 22, 3) := by decide +kernel
theorem d_Mod_condition_13 : decode m_Mod_condition.2.1 13 = .ok (.aload_n 0, 1) := by decide +kernel
theorem d_Mod_condition_14 : decode m_Mod_condition.2.1 14 = .ok (.iload_n 1, 1) := by decide +kernel
theorem d_Mod_condition_15 : decode m_Mod_condition.2.1 15 = .ok (.iload_n 2, 1) := by decide +kernel
theorem d_Mod_condition_16 : decode m_Mod_condition.2.1 16 = .ok (.invokevirtual 184, 3) := by decide +kernel
theorem d_Mod_condition_19 : decode m_Mod_condition.2.1 19 = .ok (.ifCond .eq 13, 3) := by decide +kernel
theorem d_Mod_condition_22 : decode m_Mod_condition.2.1 22 = .ok (.iload_n 3, 1) := by decide +kernel
theorem d_Mod_condition_23 : decode m_Mod_condition.2.1 23 = .ok (.ifCond .lt 9, 3) := by decide +kernel
theorem d_Mod_condition_26 : decode m_Mod_condition.2.1 26 = .ok (.iload_n 3, 1) := by decide +kernel
theorem d_Mod_condition_27 : decode m_Mod_condition.2.1 27 = .ok (.bipush 7, 2) := by decide +kernel
theorem d_Mod_condition_29 : decode m_Mod_condition.2.1 29 = .ok (.if_icmp .le 5, 3) := by decide +kernel
theorem d_Mod_condition_32 : decode m_Mod_condition.2.1 32 = .ok (.iconst 0, 1) := by decide +kernel
theorem d_Mod_condition_33 : decode m_Mod_condition.2.1 33 = .ok (.ireturn, 1) := by decide +kernel
theorem d_Mod_condition_34 : decode m_Mod_condition.2.1 34 = .ok (.iconst 4, 1) := by decide +kernel
theorem d_Mod_condition_35 : decode m_Mod_condition.2.1 35 = .ok (.aload_n 0, 1) := by decide +kernel
theorem d_Mod_condition_36 : decode m_Mod_condition.2.1 36 = .ok (.getfield 174, 3) := by decide +kernel
theorem d_Mod_condition_39 : decode m_Mod_condition.2.1 39 = .ok (.imul, 1) := by decide +kernel
theorem d_Mod_condition_40 : decode m_Mod_condition.2.1 40 = .ok (.istore 5, 2) := by decide +kernel
theorem d_Mod_condition_42 : decode m_Mod_condition.2.1 42 = .ok (.aload_n 0, 1) := by decide +kernel
theorem d_Mod_condition_43 : decode m_Mod_condition.2.1 43 = .ok (.getfield 70, 3) := by decide +kernel
theorem d_Mod_condition_46 : decode m_Mod_condition.2.1 46 = .ok (.iload 5, 2) := by decide +kernel
theorem d_Mod_condition_48 : decode m_Mod_condition.2.1 48 = .ok (.iload_n 1, 1) := by decide +kernel
theorem d_Mod_condition_49 : decode m_Mod_condition.2.1 49 = .ok (.iastore, 1) := by decide +kernel
theorem d_Mod_condition_50 : decode m_Mod_condition.2.1 50 = .ok (.aload_n 0, 1) := by decide +kernel
theorem d_Mod_condition_51 : decode m_Mod_condition.2.1 51 = .ok (.getfield 70, 3) := by decide +kernel
theorem d_Mod_condition_54 : decode m_Mod_condition.2.1 54 = .ok (.iload 5, 2) := by decide +kernel
theorem d_Mod_condition_56 : decode m_Mod_condition.2.1 56 = .ok (.iconst 1, 1) := by decide +kernel
theorem d_Mod_condition_57 : decode m_Mod_condition.2.1 57 = .ok (.iadd, 1) := by decide +kernel
theorem d_Mod_condition_58 : decode m_Mod_condition.2.1 58 = .ok (.iload_n 2, 1) := by decide +kernel
theorem d_Mod_condition_59 : decode m_Mod_condition.2.1 59 = .ok (.iastore, 1) := by decide +kernel
theorem d_Mod_condition_60 : decode m_Mod_condition.2.1 60 = .ok (.aload_n 0, 1) := by decide +kernel
theorem d_Mod_condition_61 : decode m_Mod_condition.2.1 61 = .ok (.getfield 70, 3) := by decide +kernel
theorem d_Mod_condition_64 : decode m_Mod_condition.2.1 64 = .ok (.iload 5, 2) := by decide +kernel
theorem d_Mod_condition_66 : decode m_Mod_condition.2.1 66 = .ok (.iconst 2, 1) := by decide +kernel
theorem d_Mod_condition_67 : decode m_Mod_condition.2.1 67 = .ok (.iadd, 1) := by decide +kernel
theorem d_Mod_condition_68 : decode m_Mod_condition.2.1 68 = .ok (.iload_n 3, 1) := by decide +kernel
theorem d_Mod_condition_69 : decode m_Mod_condition.2.1 69 = .ok (.iastore, 1) := by decide +kernel
theorem d_Mod_condition_70 : decode m_Mod_condition.2.1 70 = .ok (.aload_n 0, 1) := by decide +kernel
theorem d_Mod_condition_71 : decode m_Mod_condition.2.1 71 = .ok (.getfield 70, 3) := by decide +kernel
theorem d_Mod_condition_74 : decode m_Mod_condition.2.1 74 = .ok (.iload 5, 2) := by decide +kernel
theorem d_Mod_condition_76 : decode m_Mod_condition.2.1 76 = .ok (.iconst 3, 1) := by decide +kernel
theorem d_Mod_condition_77 : decode m_Mod_condition.2.1 77 = .ok (.iadd, 1) := by decide +kernel
theorem d_Mod_condition_78 : decode m_Mod_condition.2.1 78 = .ok (.iload 4, 2) := by decide +kernel
theorem d_Mod_condition_80 : decode m_Mod_condition.2.1 80 = .ok (.iastore, 1) := by decide +kernel
theorem d_Mod_condition_81 : decode m_Mod_condition.2.1 81 = .ok (.aload_n 0, 1) := by decide +kernel
theorem d_Mod_condition_82 : decode m_Mod_condition.2.1 82 = .ok (.dup, 1) := by decide +kernel
theorem d_Mod_condition_83 : decode m_Mod_condition.2.1 83 = .ok (.getfield 174, 3) := by decide +kernel
theorem d_Mod_condition_86 : decode m_Mod_condition.2.1 86 = .ok (.iconst 1, 1) := by decide +kernel
theorem d_Mod_condition_87 : decode m_Mod_condition.2.1 87 = .ok (.iadd, 1) := by decide +kernel
theorem d_Mod_condition_88 : decode m_Mod_condition.2.1 88 = .ok (.putfield 174, 3) := by decide +kernel
theorem d_Mod_condition_91 : decode m_Mod_condition.2.1 91 = .ok (.iconst 1, 1) := by decide +kernel
theorem d_Mod_condition_92 : decode m_Mod_condition.2.1 92 = .ok (.ireturn, 1) := by decide +kernel
theorem d_Mod_join_0 : decode m_Mod_join.2.1 0 = .ok (.aload_n 0, 1) := by decide +kernel
theorem d_Mod_join_1 : decode m_Mod_join.2.1 1 = .ok (.iconst 0, 1) := by decide +kernel
theorem d_Mod_join_2 : decode m_Mod_join.2.1 2 = .ok (.putfield 73, 3) := by decide +kernel
theorem d_Mod_join_5 : decode m_Mod_join.2.1 5 = .ok (.aload_n 0, 1) := by decide +kernel
theorem d_Mod_join_6 : decode m_Mod_join.2.1 6 = .ok (.getfield 64, 3) := by decide +kernel
theorem d_Mod_join_9 : decode m_Mod_join.2.1 9 = .ok (.ifCond .lt 21, 3) := by decide +kernel
theorem d_Mod_join_12 : decode m_Mod_join.2.1 12 = .ok (.aload_n 0, 1) := by decide +kernel
theorem d_Mod_join_13 : decode m_Mod_join.2.1 13 = .ok (.iconst 0, 1) := by decide +kernel
theorem d_Mod_join_14 : decode m_Mod_join.2.1 14 = .ok (.iload_n 1, 1) := by decide +kernel
theorem d_Mod_join_15 : decode m_Mod_join.2.1 15 = .ok (.invokevirtual 184, 3) := by decide +kernel
theorem d_Mod_join_18 : decode m_Mod_join.2.1 18 = .ok (.ifCond .eq 12, 3) := by decide +kernel
theorem d_Mod_join_21 : decode m_Mod_join.2.1 21 = .ok (.aload_n 0, 1) := by decide +kernel
theorem d_Mod_join_22 : decode m_Mod_join.2.1 22 = .ok (.iconst 1, 1) := by decide +kernel
theorem d_Mod_join_23 : decode m_Mod_join.2.1 23 = .ok (.iload_n 2, 1) := by decide +kernel
theorem d_Mod_join_24 : decode m_Mod_join.2.1 24 = .ok (.invokevirtual 184, 3) := by decide +kernel
theorem d_Mod_join_27 : decode m_Mod_join.2.1 27 = .ok (.ifCond .ne 5, 3) := by decide +kernel
theorem d_Mod_join_30 : decode m_Mod_join.2.1 30 = .ok (.iconst 0, 1) := by decide +kernel
theorem d_Mod_join_31 : decode m_Mod_join.2.1 31 = .ok (.ireturn, 1) := by decide +kernel
theorem d_Mod_join_32 : decode m_Mod_join.2.1 32 = .ok (.aload_n 0, 1) := by decide +kernel
theorem d_Mod_join_33 : decode m_Mod_join.2.1 33 = .ok (.iconst 1, 1) := by decide +kernel
theorem d_Mod_join_34 : decode m_Mod_join.2.1 34 = .ok (.putfield 177, 3) := by decide +kernel
theorem d_Mod_join_37 : decode m_Mod_join.2.1 37 = .ok (.aload_n 0, 1) := by decide +kernel
theorem d_Mod_join_38 : decode m_Mod_join.2.1 38 = .ok (.iload_n 1, 1) := by decide +kernel
theorem d_Mod_join_39 : decode m_Mod_join.2.1 39 = .ok (.putfield 187, 3) := by decide +kernel
theorem d_Mod_join_42 : decode m_Mod_join.2.1 42 = .ok (.aload_n 0, 1) := by decide +kernel
theorem d_Mod_join_43 : decode m_Mod_join.2.1 43 = .ok (.iload_n 2, 1) := by decide +kernel
theorem d_Mod_join_44 : decode m_Mod_join.2.1 44 = .ok (.putfield 190, 3) := by decide +kernel
theorem d_Mod_join_47 : decode m_Mod_join.2.1 47 = .ok (.iconst 1, 1) := by decide +kernel
theorem d_Mod_join_48 : decode m_Mod_join.2.1 48 = .ok (.ireturn, 1) := by decide +kernel
theorem d_Mod_compile_0 : decode m_Mod_compile.2.1 0 = .ok (.aload_n 0, 1) := by decide +kernel
theorem d_Mod_compile_1 : decode m_Mod_compile.2.1 1 = .ok (.aload_n 0, 1) := by decide +kernel
theorem d_Mod_compile_2 : decode m_Mod_compile.2.1 2 = .ok (.getfield 60, 3) := by decide +kernel
theorem d_Mod_compile_5 : decode m_Mod_compile.2.1 5 = .ok (.ifCond .lt 10, 3) := by decide +kernel
theorem d_Mod_compile_8 : decode m_Mod_compile.2.1 8 = .ok (.aload_n 0, 1) := by decide +kernel
theorem d_Mod_compile_9 : decode m_Mod_compile.2.1 9 = .ok (.getfield 171, 3) := by decide +kernel
theorem d_Mod_compile_12 : decode m_Mod_compile.2.1 12 = .ok (.ifCond .ne 7, 3) := by decide +kernel
theorem d_Mod_compile_15 : decode m_Mod_compile.2.1 15 = .ok (.iconst 1, 1) := by decide +kernel
theorem d_Mod_compile_16 : decode m_Mod_compile.2.1 16 = .ok (.goto 4, 3) := by decide +kernel
theorem d_Mod_compile_19 : decode m_Mod_compile.2.1 19 = .ok (.iconst 0, 1) := by decide +kernel
theorem d_Mod_compile_20 : decode m_Mod_compile.2.1 20 = .ok (.putfield 73, 3) := by decide +kernel
theorem d_Mod_compile_23 : decode m_Mod_compile.2.1 23 = .ok (.aload_n 0, 1) := by decide +kernel
theorem d_Mod_compile_24 : decode m_Mod_compile.2.1 24 = .ok (.getfield 73, 3) := by decide +kernel
theorem d_Mod_compile_27 : decode m_Mod_compile.2.1 27 = .ok (.ifCond .le 5, 3) := by decide +kernel
theorem d_Mod_compile_30 : decode m_Mod_compile.2.1 30 = .ok (.iconst 0, 1) := by decide +kernel
theorem d_Mod_compile_31 : decode m_Mod_compile.2.1 31 = .ok (.ireturn, 1) := by decide +kernel
theorem d_Mod_compile_32 : decode m_Mod_compile.2.1 32 = .ok (.aload_n 0, 1) := by decide +kernel
theorem d_Mod_compile_33 : decode m_Mod_compile.2.1 33 = .ok (.getfield 64, 3) := by decide +kernel
theorem d_Mod_compile_36 : decode m_Mod_compile.2.1 36 = .ok (.ifCond .lt 7, 3) := by decide +kernel
theorem d_Mod_compile_39 : decode m_Mod_compile.2.1 39 = .ok (.iconst 1, 1) := by decide +kernel
theorem d_Mod_compile_40 : decode m_Mod_compile.2.1 40 = .ok (.goto 4, 3) := by decide +kernel
theorem d_Mod_compile_43 : decode m_Mod_compile.2.1 43 = .ok (.iconst 0, 1) := by decide +kernel
theorem d_Mod_compile_44 : decode m_Mod_compile.2.1 44 = .ok (.istore_n 1, 1) := by decide +kernel
theorem d_Mod_compile_45 : decode m_Mod_compile.2.1 45 = .ok (.aload_n 0, 1) := by decide +kernel
theorem d_Mod_compile_46 : decode m_Mod_compile.2.1 46 = .ok (.iconst 0, 1) := by decide +kernel
theorem d_Mod_compile_47 : decode m_Mod_compile.2.1 47 = .ok (.putfield 110, 3) := by decide +kernel
theorem d_Mod_compile_50 : decode m_Mod_compile.2.1 50 = .ok (.aload_n 0, 1) := by decide +kernel
theorem d_Mod_compile_51 : decode m_Mod_compile.2.1 51 = .ok (.iconst 1, 1) := by decide +kernel
theorem d_Mod_compile_52 : decode m_Mod_compile.2.1 52 = .ok (.iconst 0, 1) := by decide +kernel
theorem d_Mod_compile_53 : decode m_Mod_compile.2.1 53 = .ok (.aload_n 0, 1) := by decide +kernel
theorem d_Mod_compile_54 : decode m_Mod_compile.2.1 54 = .ok (.getfield 60, 3) := by decide +kernel
theorem d_Mod_compile_57 : decode m_Mod_compile.2.1 57 = .ok (.iconst 0, 1) := by decide +kernel
theorem d_Mod_compile_58 : decode m_Mod_compile.2.1 58 = .ok (.invokevirtual 121, 3) := by decide +kernel
theorem d_Mod_compile_61 : decode m_Mod_compile.2.1 61 = .ok (.iload_n 1, 1) := by decide +kernel
theorem d_Mod_compile_62 : decode m_Mod_compile.2.1 62 = .ok (.ifCond .eq 14, 3) := by decide +kernel
theorem d_Mod_compile_65 : decode m_Mod_compile.2.1 65 = .ok (.aload_n 0, 1) := by decide +kernel
theorem d_Mod_compile_66 : decode m_Mod_compile.2.1 66 = .ok (.iconst 1, 1) := by decide +kernel
theorem d_Mod_compile_67 : decode m_Mod_compile.2.1 67 = .ok (.iconst 1, 1) := by decide +kernel
theorem d_Mod_compile_68 : decode m_Mod_compile.2.1 68 = .ok (.aload_n 0, 1) := by decide +kernel
theorem d_Mod_compile_69 : decode m_Mod_compile.2.1 69 = .ok (.getfield 64, 3) := by decide +kernel
theorem d_Mod_compile_72 : decode m_Mod_compile.2.1 72 = .ok (.iconst 0, 1) := by decide +kernel
theorem d_Mod_compile_73 : decode m_Mod_compile.2.1 73 = .ok (.invokevirtual 121, 3) := by decide +kernel
theorem d_Mod_compile_76 : decode m_Mod_compile.2.1 76 = .ok (.aload_n 0, 1) := by decide +kernel
theorem d_Mod_compile_77 : decode m_Mod_compile.2.1 77 = .ok (.getfield 110, 3) := by decide +kernel
theorem d_Mod_compile_80 : decode m_Mod_compile.2.1 80 = .ok (.aload_n 0, 1) := by decide +kernel
theorem d_Mod_compile_81 : decode m_Mod_compile.2.1 81 = .ok (.iconst 0, 1) := by decide +kernel
theorem d_Mod_compile_82 : decode m_Mod_compile.2.1 82 = .ok (.invokevirtual 200, 3) := by decide +kernel
theorem d_Mod_compile_85 : decode m_Mod_compile.2.1 85 = .ok (.iadd, 1) := by decide +kernel
theorem d_Mod_compile_86 : decode m_Mod_compile.2.1 86 = .ok (.istore_n 2, 1) := by decide +kernel
theorem d_Mod_compile_87 : decode m_Mod_compile.2.1 87 = .ok (.iload_n 2, 1) := by decide +kernel
theorem d_Mod_compile_88 : decode m_Mod_compile.2.1 88 = .ok (.iload_n 1, 1) := by decide +kernel
theorem d_Mod_compile_89 : decode m_Mod_compile.2.1 89 = .ok (.ifCond .eq 24, 3) := by decide +kernel
theorem d_Mod_compile_92 : decode m_Mod_compile.2.1 92 = .ok (.aload_n 0, 1) := by decide +kernel
theorem d_Mod_compile_93 : decode m_Mod_compile.2.1 93 = .ok (.iconst 1, 1) := by decide +kernel
theorem d_Mod_compile_94 : decode m_Mod_compile.2.1 94 = .ok (.invokevirtual 200, 3) := by decide +kernel
theorem d_Mod_compile_97 : decode m_Mod_compile.2.1 97 = .ok (.aload_n 0, 1) := by decide +kernel
theorem d_Mod_compile_98 : decode m_Mod_compile.2.1 98 = .ok (.getfield 177, 3) := by decide +kernel
theorem d_Mod_compile_101 : decode m_Mod_compile.2.1 101 = .ok (.ifCond .eq 7, 3) := by decide +kernel
theorem d_Mod_compile_104 : decode m_Mod_compile.2.1 104 = .ok (.iconst 4, 1) := by decide +kernel
theorem d_Mod_compile_105 : decode m_Mod_compile.2.1 105 = .ok (.goto 4, 3) := by decide +kernel
theorem d_Mod_compile_108 : decode m_Mod_compile.2.1 108 = .ok (.iconst 0, 1) := by decide +kernel
theorem d_Mod_compile_109 : decode m_Mod_compile.2.1 109 = .ok (.iadd, 1) := by decide +kernel
theorem d_Mod_compile_110 : decode m_Mod_compile.2.1 110 = .ok (.goto 4, 3) := by decide +kernel
theorem d_Mod_compile_113 : decode m_Mod_compile.2.1 113 = .ok (.iconst 0, 1) := by decide +kernel
theorem d_Mod_compile_114 : decode m_Mod_compile.2.1 114 = .ok (.iadd, 1) := by decide +kernel
theorem d_Mod_compile_115 : decode m_Mod_compile.2.1 115 = .ok (.aload_n 0, 1) := by decide +kernel
theorem d_Mod_compile_116 : decode m_Mod_compile.2.1 116 = .ok (.getfield 171, 3) := by decide +kernel
theorem d_Mod_compile_119 : decode m_Mod_compile.2.1 119 = .ok (.iadd, 1) := by decide +kernel
theorem d_Mod_compile_120 : decode m_Mod_compile.2.1 120 = .ok (.iconst 1, 1) := by decide +kernel
theorem d_Mod_compile_121 : decode m_Mod_compile.2.1 121 = .ok (.iadd, 1) := by decide +kernel
theorem d_Mod_compile_122 : decode m_Mod_compile.2.1 122 = .ok (.istore_n 3, 1) := by decide +kernel
theorem d_Mod_compile_123 : decode m_Mod_compile.2.1 123 = .ok (.iload_n 1, 1) := by decide +kernel
theorem d_Mod_compile_124 : decode m_Mod_compile.2.1 124 = .ok (.ifCond .eq 9, 3) := by decide +kernel
theorem d_Mod_compile_127 : decode m_Mod_compile.2.1 127 = .ok (.iload_n 3, 1) := by decide +kernel
theorem d_Mod_compile_128 : decode m_Mod_compile.2.1 128 = .ok (.iconst 1, 1) := by decide +kernel
theorem d_Mod_compile_129 : decode m_Mod_compile.2.1 129 = .ok (.iadd, 1) := by decide +kernel
theorem d_Mod_compile_130 : decode m_Mod_compile.2.1 130 = .ok (.goto 4, 3) := by decide +kernel
theorem d_Mod_compile_133 : decode m_Mod_compile.2.1 133 = .ok (.iload_n 3, 1) := by decide +kernel
theorem d_Mod_compile_134 : decode m_Mod_compile.2.1 134 = .ok (.istore 4, 2) := by decide +kernel
theorem d_Mod_compile_136 : decode m_Mod_compile.2.1 136 = .ok (.aload_n 0, 1) := by decide +kernel
theorem d_Mod_compile_137 : decode m_Mod_compile.2.1 137 = .ok (.iconst 0, 1) := by decide +kernel
theorem d_Mod_compile_138 : decode m_Mod_compile.2.1 138 = .ok (.iload 4, 2) := by decide +kernel
theorem d_Mod_compile_140 : decode m_Mod_compile.2.1 140 = .ok (.iconst 1, 1) := by decide +kernel
theorem d_Mod_compile_141 : decode m_Mod_compile.2.1 141 = .ok (.iadd, 1) := by decide +kernel
theorem d_Mod_compile_142 : decode m_Mod_compile.2.1 142 = .ok (.iload 4, 2) := by decide +kernel
theorem d_Mod_compile_144 : decode m_Mod_compile.2.1 144 = .ok (.invokevirtual 203, 3) := by decide +kernel
theorem d_Mod_compile_147 : decode m_Mod_compile.2.1 147 = .ok (.istore 5, 2) := by decide +kernel
theorem d_Mod_compile_149 : decode m_Mod_compile.2.1 149 = .ok (.iload_n 1, 1) := by decide +kernel
theorem d_Mod_compile_150 : decode m_Mod_compile.2.1 150 = .ok (.ifCond .eq 79, 3) := by decide +kernel
theorem d_Mod_compile_153 : decode m_Mod_compile.2.1 153 = .ok (.aload_n 0, 1) := by decide +kernel
theorem d_Mod_compile_154 : decode m_Mod_compile.2.1 154 = .ok (.iconst 1, 1) := by decide +kernel
theorem d_Mod_compile_155 : decode m_Mod_compile.2.1 155 = .ok (.iload 4, 2) := by decide +kernel
theorem d_Mod_compile_157 : decode m_Mod_compile.2.1 157 = .ok (.iload_n 3, 1) := by decide +kernel
theorem d_Mod_compile_158 : decode m_Mod_compile.2.1 158 = .ok (.invokevirtual 203, 3) := by decide +kernel
theorem d_Mod_compile_161 : decode m_Mod_compile.2.1 161 = .ok (.istore 6, 2) := by decide +kernel
theorem d_Mod_compile_163 : decode m_Mod_compile.2.1 163 = .ok (.aload_n 0, 1) := by decide +kernel
theorem d_Mod_compile_164 : decode m_Mod_compile.2.1 164 = .ok (.getfield 177, 3) := by decide +kernel
theorem d_Mod_compile_167 : decode m_Mod_compile.2.1 167 = .ok (.ifCond .eq 46, 3) := by decide +kernel
theorem d_Mod_compile_170 : decode m_Mod_compile.2.1 170 = .ok (.aload_n 0, 1) := by decide +kernel
theorem d_Mod_compile_171 : decode m_Mod_compile.2.1 171 = .ok (.iconst 0, 1) := by decide +kernel
theorem d_Mod_compile_172 : decode m_Mod_compile.2.1 172 = .ok (.aload_n 0, 1) := by decide +kernel
theorem d_Mod_compile_173 : decode m_Mod_compile.2.1 173 = .ok (.getfield 187, 3) := by decide +kernel
theorem d_Mod_compile_176 : decode m_Mod_compile.2.1 176 = .ok (.iconst 0, 1) := by decide +kernel
theorem d_Mod_compile_177 : decode m_Mod_compile.2.1 177 = .ok (.invokevirtual 196, 3) := by decide +kernel
theorem d_Mod_compile_180 : decode m_Mod_compile.2.1 180 = .ok (.aload_n 0, 1) := by decide +kernel
theorem d_Mod_compile_181 : decode m_Mod_compile.2.1 181 = .ok (.iconst 1, 1) := by decide +kernel
theorem d_Mod_compile_182 : decode m_Mod_compile.2.1 182 = .ok (.aload_n 0, 1) := by decide +kernel
theorem d_Mod_compile_183 : decode m_Mod_compile.2.1 183 = .ok (.getfield 190, 3) := by decide +kernel
theorem d_Mod_compile_186 : decode m_Mod_compile.2.1 186 = .ok (.iconst 1, 1) := by decide +kernel
theorem d_Mod_compile_187 : decode m_Mod_compile.2.1 187 = .ok (.invokevirtual 196, 3) := by decide +kernel
theorem d_Mod_compile_190 : decode m_Mod_compile.2.1 190 = .ok (.aload_n 0, 1) := by decide +kernel
theorem d_Mod_compile_191 : decode m_Mod_compile.2.1 191 = .ok (.bipush 9, 2) := by decide +kernel
theorem d_Mod_compile_193 : decode m_Mod_compile.2.1 193 = .ok (.iconst 0, 1) := by decide +kernel
theorem d_Mod_compile_194 : decode m_Mod_compile.2.1 194 = .ok (.aload_n 0, 1) := by decide +kernel
theorem d_Mod_compile_195 : decode m_Mod_compile.2.1 195 = .ok (.getfield 110, 3) := by decide +kernel
theorem d_Mod_compile_198 : decode m_Mod_compile.2.1 198 = .ok (.iconst 2, 1) := by decide +kernel
theorem d_Mod_compile_199 : decode m_Mod_compile.2.1 199 = .ok (.iadd, 1) := by decide +kernel
theorem d_Mod_compile_200 : decode m_Mod_compile.2.1 200 = .ok (.iconst 1, 1) := by decide +kernel
theorem d_Mod_compile_201 : decode m_Mod_compile.2.1 201 = .ok (.invokevirtual 121, 3) := by decide +kernel
theorem d_Mod_compile_204 : decode m_Mod_compile.2.1 204 = .ok (.aload_n 0, 1) := by decide +kernel
theorem d_Mod_compile_205 : decode m_Mod_compile.2.1 205 = .ok (.bipush 19, 2) := by decide +kernel
theorem d_Mod_compile_207 : decode m_Mod_compile.2.1 207 = .ok (.iload_n 3, 1) := by decide +kernel
theorem d_Mod_compile_208 : decode m_Mod_compile.2.1 208 = .ok (.iconst 0, 1) := by decide +kernel
theorem d_Mod_compile_209 : decode m_Mod_compile.2.1 209 = .ok (.iconst 0, 1) := by decide +kernel
theorem d_Mod_compile_210 : decode m_Mod_compile.2.1 210 = .ok (.invokevirtual 121, 3) := by decide +kernel
theorem d_Mod_compile_213 : decode m_Mod_compile.2.1 213 = .ok (.aload_n 0, 1) := by decide +kernel
theorem d_Mod_compile_214 : decode m_Mod_compile.2.1 214 = .ok (.invokevirtual 207, 3) := by decide +kernel
theorem d_Mod_compile_217 : decode m_Mod_compile.2.1 217 = .ok (.aload_n 0, 1) := by decide +kernel
theorem d_Mod_compile_218 : decode m_Mod_compile.2.1 218 = .ok (.iconst 3, 1) := by decide +kernel
theorem d_Mod_compile_219 : decode m_Mod_compile.2.1 219 = .ok (.iconst 1, 1) := by decide +kernel
theorem d_Mod_compile_220 : decode m_Mod_compile.2.1 220 = .ok (.iload 6, 2) := by decide +kernel
theorem d_Mod_compile_222 : decode m_Mod_compile.2.1 222 = .ok (.iconst 0, 1) := by decide +kernel
theorem d_Mod_compile_223 : decode m_Mod_compile.2.1 223 = .ok (.invokevirtual 121, 3) := by decide +kernel
theorem d_Mod_compile_226 : decode m_Mod_compile.2.1 226 = .ok (.goto 7, 3) := by decide +kernel
theorem d_Mod_compile_229 : decode m_Mod_compile.2.1 229 = .ok (.aload_n 0, 1) := by decide +kernel
theorem d_Mod_compile_230 : decode m_Mod_compile.2.1 230 = .ok (.invokevirtual 207, 3) := by decide +kernel
theorem d_Mod_compile_233 : decode m_Mod_compile.2.1 233 = .ok (.aload_n 0, 1) := by decide +kernel
theorem d_Mod_compile_234 : decode m_Mod_compile.2.1 234 = .ok (.iconst 3, 1) := by decide +kernel
theorem d_Mod_compile_235 : decode m_Mod_compile.2.1 235 = .ok (.iconst 0, 1) := by decide +kernel
theorem d_Mod_compile_236 : decode m_Mod_compile.2.1 236 = .ok (.iload 5, 2) := by decide +kernel
theorem d_Mod_compile_238 : decode m_Mod_compile.2.1 238 = .ok (.iconst 0, 1) := by decide +kernel
theorem d_Mod_compile_239 : decode m_Mod_compile.2.1 239 = .ok (.invokevirtual 121, 3) := by decide +kernel
theorem d_Mod_compile_242 : decode m_Mod_compile.2.1 242 = .ok (.aload_n 0, 1) := by decide +kernel
theorem d_Mod_compile_243 : decode m_Mod_compile.2.1 243 = .ok (.iconst 0, 1) := by decide +kernel
theorem d_Mod_compile_244 : decode m_Mod_compile.2.1 244 = .ok (.iconst 0, 1) := by decide +kernel
theorem d_Mod_compile_245 : decode m_Mod_compile.2.1 245 = .ok (.iconst 0, 1) := by decide +kernel
theorem d_Mod_compile_246 : decode m_Mod_compile.2.1 246 = .ok (.iconst 0, 1) := by decide +kernel
theorem d_Mod_compile_247 : decode m_Mod_compile.2.1 247 = .ok (.invokevirtual 121, 3) := by decide +kernel
theorem d_Mod_compile_250 : decode m_Mod_compile.2.1 250 = .ok (.aload_n 0, 1) := by decide +kernel
theorem d_Mod_compile_251 : decode m_Mod_compile.2.1 251 = .ok (.getfield 110, 3) := by decide +kernel
theorem d_Mod_compile_254 : decode m_Mod_compile.2.1 254 = .ok (.ireturn, 1) := by decide +kernel
theorem d_Mod_length_0 : decode m_Mod_length.2.1 0 = .ok (.aload_n 0, 1) := by decide +kernel
theorem d_Mod_length_1 : decode m_Mod_length.2.1 1 = .ok (.iload_n 1, 1) := by decide +kernel
theorem d_Mod_length_2 : decode m_Mod_length.2.1 2 = .ok (.invokevirtual 193, 3) := by decide +kernel
theorem d_Mod_length_5 : decode m_Mod_length.2.1 5 = .ok (.ifCond .ge 7, 3) := by decide +kernel
theorem d_Mod_length_8 : decode m_Mod_length.2.1 8 = .ok (.iconst 1, 1) := by decide +kernel
theorem d_Mod_length_9 : decode m_Mod_length.2.1 9 = .ok (.goto 4, 3) := by decide +kernel
theorem d_Mod_length_12 : decode m_Mod_length.2.1 12 = .ok (.iconst 2, 1) := by decide +kernel
theorem d_Mod_length_13 : decode m_Mod_length.2.1 13 = .ok (.istore_n 2, 1) := by decide +kernel
theorem d_Mod_length_14 : decode m_Mod_length.2.1 14 = .ok (.iconst 0, 1) := by decide +kernel
theorem d_Mod_length_15 : decode m_Mod_length.2.1 15 = .ok (.istore_n 3, 1) := by decide +kernel
theorem d_Mod_length_16 : decode m_Mod_length.2.1 16 = .ok (.iload_n 3, 1) := by decide +kernel
theorem d_Mod_length_17 : decode m_Mod_length.2.1 17 = .ok (.aload_n 0, 1) := by decide +kernel
theorem d_Mod_length_18 : decode m_Mod_length.2.1 18 = .ok (.getfield 174, 3) := by decide +kernel
theorem d_Mod_length_21 : decode m_Mod_length.2.1 21 = .ok (.if_icmp .ge 48, 3) := by decide +kernel
theorem d_Mod_length_24 : decode m_Mod_length.2.1 24 = .ok (.iload_n 2, 1) := by decide +kernel
theorem d_Mod_length_25 : decode m_Mod_length.2.1 25 = .ok (.aload_n 0, 1) := by decide +kernel
theorem d_Mod_length_26 : decode m_Mod_length.2.1 26 = .ok (.getfield 70, 3) := by decide +kernel
theorem d_Mod_length_29 : decode m_Mod_length.2.1 29 = .ok (.iconst 4, 1) := by decide +kernel
theorem d_Mod_length_30 : decode m_Mod_length.2.1 30 = .ok (.iload_n 3, 1) := by decide +kernel
theorem d_Mod_length_31 : decode m_Mod_length.2.1 31 = .ok (.imul, 1) := by decide +kernel
theorem d_Mod_length_32 : decode m_Mod_length.2.1 32 = .ok (.iaload, 1) := by decide +kernel
theorem d_Mod_length_33 : decode m_Mod_length.2.1 33 = .ok (.iload_n 1, 1) := by decide +kernel
theorem d_Mod_length_34 : decode m_Mod_length.2.1 34 = .ok (.if_icmp .eq 7, 3) := by decide +kernel
theorem d_Mod_length_37 : decode m_Mod_length.2.1 37 = .ok (.iconst 0, 1) := by decide +kernel
theorem d_Mod_length_38 : decode m_Mod_length.2.1 38 = .ok (.goto 23, 3) := by decide +kernel
theorem d_Mod_length_41 : decode m_Mod_length.2.1 41 = .ok (.aload_n 0, 1) := by decide +kernel
theorem d_Mod_length_42 : decode m_Mod_length.2.1 42 = .ok (.getfield 70, 3) := by decide +kernel
theorem d_Mod_length_45 : decode m_Mod_length.2.1 45 = .ok (.iconst 4, 1) := by decide +kernel
theorem d_Mod_length_46 : decode m_Mod_length.2.1 46 = .ok (.iload_n 3, 1) := by decide +kernel
theorem d_Mod_length_47 : decode m_Mod_length.2.1 47 = .ok (.imul, 1) := by decide +kernel
theorem d_Mod_length_48 : decode m_Mod_length.2.1 48 = .ok (.iconst 2, 1) := by decide +kernel
theorem d_Mod_length_49 : decode m_Mod_length.2.1 49 = .ok (.iadd, 1) := by decide +kernel
theorem d_Mod_length_50 : decode m_Mod_length.2.1 50 = .ok (.iaload, 1) := by decide +kernel
theorem d_Mod_length_51 : decode m_Mod_length.2.1 51 = .ok (.bipush 6, 2) := by decide +kernel
theorem d_Mod_length_53 : decode m_Mod_length.2.1 53 = .ok (.if_icmp .ge 7, 3) := by decide +kernel
theorem d_Mod_length_56 : decode m_Mod_length.2.1 56 = .ok (.iconst 4, 1) := by decide +kernel
theorem d_Mod_length_57 : decode m_Mod_length.2.1 57 = .ok (.goto 4, 3) := by decide +kernel
theorem d_Mod_length_60 : decode m_Mod_length.2.1 60 = .ok (.iconst 3, 1) := by decide +kernel
theorem d_Mod_length_61 : decode m_Mod_length.2.1 61 = .ok (.iadd, 1) := by decide +kernel
theorem d_Mod_length_62 : decode m_Mod_length.2.1 62 = .ok (.istore_n 2, 1) := by decide +kernel
theorem d_Mod_length_63 : decode m_Mod_length.2.1 63 = .ok (.iinc 3 1, 3) := by decide +kernel
theorem d_Mod_length_66 : decode m_Mod_length.2.1 66 = .ok (.goto (-50), 3) := by decide +kernel
theorem d_Mod_length_69 : decode m_Mod_length.2.1 69 = .ok (.iload_n 2, 1) := by decide +kernel
theorem d_Mod_length_70 : decode m_Mod_length.2.1 70 = .ok (.ireturn, 1) := by decide +kernel
theorem d_Mod_seeker_0 : decode m_Mod_seeker.2.1 0 = .ok (.iconst (-1), 1) := by decide +kernel
theorem d_Mod_seeker_1 : decode m_Mod_seeker.2.1 1 = .ok (.istore_n 2, 1) := by decide +kernel
theorem d_Mod_seeker_2 : decode m_Mod_seeker.2.1 2 = .ok (.aload_n 0, 1) := by decide +kernel
theorem d_Mod_seeker_3 : decode m_Mod_seeker.2.1 3 = .ok (.getfield 174, 3) := by decide +kernel
theorem d_Mod_seeker_6 : decode m_Mod_seeker.2.1 6 = .ok (.iconst 1, 1) := by decide +kernel
theorem d_Mod_seeker_7 : decode m_Mod_seeker.2.1 7 = .ok (.isub, 1) := by decide +kernel
theorem d_Mod_seeker_8 : decode m_Mod_seeker.2.1 8 = .ok (.istore_n 3, 1) := by decide +kernel
theorem d_Mod_seeker_9 : decode m_Mod_seeker.2.1 9 = .ok (.iload_n 3, 1) := by decide +kernel
theorem d_Mod_seeker_10 : decode m_Mod_seeker.2.1 10 = .ok (.ifCond .lt 82, 3) := by decide +kernel
theorem d_Mod_seeker_13 : decode m_Mod_seeker.2.1 13 = .ok (.aload_n 0, 1) := by decide +kernel
theorem d_Mod_seeker_14 : decode m_Mod_seeker.2.1 14 = .ok (.getfield 70, 3) := by decide +kernel
theorem d_Mod_seeker_17 : decode m_Mod_seeker.2.1 17 = .ok (.iconst 4, 1) := by decide +kernel
theorem d_Mod_seeker_18 : decode m_Mod_seeker.2.1 18 = .ok (.iload_n 3, 1) := by decide +kernel
theorem d_Mod_seeker_19 : decode m_Mod_seeker.2.1 19 = .ok (.imul, 1) := by decide +kernel
theorem d_Mod_seeker_20 : decode m_Mod_seeker.2.1 20 = .ok (.iconst 2, 1) := by decide +kernel
theorem d_Mod_seeker_21 : decode m_Mod_seeker.2.1 21 = .ok (.iadd, 1) := by decide +kernel
theorem d_Mod_seeker_22 : decode m_Mod_seeker.2.1 22 = .ok (.iaload, 1) := by decide +kernel
theorem d_Mod_seeker_23 : decode m_Mod_seeker.2.1 23 = .ok (.istore 4, 2) := by decide +kernel
theorem d_Mod_seeker_25 : decode m_Mod_seeker.2.1 25 = .ok (.aload_n 0, 1) := by decide +kernel
theorem d_Mod_seeker_26 : decode m_Mod_seeker.2.1 26 = .ok (.getfield 70, 3) := by decide +kernel
theorem d_Mod_seeker_29 : decode m_Mod_seeker.2.1 29 = .ok (.iconst 4, 1) := by decide +kernel
theorem d_Mod_seeker_30 : decode m_Mod_seeker.2.1 30 = .ok (.iload_n 3, 1) := by decide +kernel
theorem d_Mod_seeker_31 : decode m_Mod_seeker.2.1 31 = .ok (.imul, 1) := by decide +kernel
theorem d_Mod_seeker_32 : decode m_Mod_seeker.2.1 32 = .ok (.iaload, 1) := by decide +kernel
theorem d_Mod_seeker_33 : decode m_Mod_seeker.2.1 33 = .ok (.iload_n 1, 1) := by decide +kernel
theorem d_Mod_seeker_34 : decode m_Mod_seeker.2.1 34 = .ok (.if_icmp .ne 38, 3) := by decide +kernel
theorem d_Mod_seeker_37 : decode m_Mod_seeker.2.1 37 = .ok (.aload_n 0, 1) := by decide +kernel
theorem d_Mod_seeker_38 : decode m_Mod_seeker.2.1 38 = .ok (.getfield 70, 3) := by decide +kernel
theorem d_Mod_seeker_41 : decode m_Mod_seeker.2.1 41 = .ok (.iconst 4, 1) := by decide +kernel
theorem d_Mod_seeker_42 : decode m_Mod_seeker.2.1 42 = .ok (.iload_n 3, 1) := by decide +kernel
theorem d_Mod_seeker_43 : decode m_Mod_seeker.2.1 43 = .ok (.imul, 1) := by decide +kernel
theorem d_Mod_seeker_44 : decode m_Mod_seeker.2.1 44 = .ok (.iconst 1, 1) := by decide +kernel
theorem d_Mod_seeker_45 : decode m_Mod_seeker.2.1 45 = .ok (.iadd, 1) := by decide +kernel
theorem d_Mod_seeker_46 : decode m_Mod_seeker.2.1 46 = .ok (.iaload, 1) := by decide +kernel
theorem d_Mod_seeker_47 : decode m_Mod_seeker.2.1 47 = .ok (.iconst (-1), 1) := by decide +kernel
theorem d_Mod_seeker_48 : decode m_Mod_seeker.2.1 48 = .ok (.if_icmp .ne 24, 3) := by decide +kernel
theorem d_Mod_seeker_51 : decode m_Mod_seeker.2.1 51 = .ok (.iload 4, 2) := by decide +kernel
theorem d_Mod_seeker_53 : decode m_Mod_seeker.2.1 53 = .ok (.ifCond .eq 15, 3) := by decide +kernel
theorem d_Mod_seeker_56 : decode m_Mod_seeker.2.1 56 = .ok (.iload 4, 2) := by decide +kernel
theorem d_Mod_seeker_58 : decode m_Mod_seeker.2.1 58 = .ok (.iconst 4, 1) := by decide +kernel
theorem d_Mod_seeker_59 : decode m_Mod_seeker.2.1 59 = .ok (.if_icmp .eq 9, 3) := by decide +kernel
theorem d_Mod_seeker_62 : decode m_Mod_seeker.2.1 62 = .ok (.iload 4, 2) := by decide +kernel
theorem d_Mod_seeker_64 : decode m_Mod_seeker.2.1 64 = .ok (.iconst 5, 1) := by decide +kernel
theorem d_Mod_seeker_65 : decode m_Mod_seeker.2.1 65 = .ok (.if_icmp .ne 7, 3) := by decide +kernel
theorem d_Mod_seeker_68 : decode m_Mod_seeker.2.1 68 = .ok (.iconst 1, 1) := by decide +kernel
theorem d_Mod_seeker_69 : decode m_Mod_seeker.2.1 69 = .ok (.goto 4, 3) := by decide +kernel
theorem d_Mod_seeker_72 : decode m_Mod_seeker.2.1 72 = .ok (.iconst 0, 1) := by decide +kernel
theorem d_Mod_seeker_73 : decode m_Mod_seeker.2.1 73 = .ok (.istore 5, 2) := by decide +kernel
theorem d_Mod_seeker_75 : decode m_Mod_seeker.2.1 75 = .ok (.iload 5, 2) := by decide +kernel
theorem d_Mod_seeker_77 : decode m_Mod_seeker.2.1 77 = .ok (.ifCond .eq 7, 3) := by decide +kernel
theorem d_Mod_seeker_80 : decode m_Mod_seeker.2.1 80 = .ok (.iload_n 3, 1) := by decide +kernel
theorem d_Mod_seeker_81 : decode m_Mod_seeker.2.1 81 = .ok (.goto 4, 3) := by decide +kernel
theorem d_Mod_seeker_84 : decode m_Mod_seeker.2.1 84 = .ok (.iload_n 2, 1) := by decide +kernel
theorem d_Mod_seeker_85 : decode m_Mod_seeker.2.1 85 = .ok (.istore_n 2, 1) := by decide +kernel
theorem d_Mod_seeker_86 : decode m_Mod_seeker.2.1 86 = .ok (.iinc 3 (-1), 3) := by decide +kernel
theorem d_Mod_seeker_89 : decode m_Mod_seeker.2.1 89 = .ok (.goto (-80), 3) := by decide +kernel
theorem d_Mod_seeker_92 : decode m_Mod_seeker.2.1 92 = .ok (.iload_n 2, 1) := by decide +kernel
theorem d_Mod_seeker_93 : decode m_Mod_seeker.2.1 93 = .ok (.ireturn, 1) := by decide +kernel
theorem d_Mod_loop_0 : decode m_Mod_loop.2.1 0 = .ok (.aload_n 0, 1) := by decide +kernel
theorem d_Mod_loop_1 : decode m_Mod_loop.2.1 1 = .ok (.iload_n 1, 1) := by decide +kernel
theorem d_Mod_loop_2 : decode m_Mod_loop.2.1 2 = .ok (.invokevirtual 193, 3) := by decide +kernel
theorem d_Mod_loop_5 : decode m_Mod_loop.2.1 5 = .ok (.istore 4, 2) := by decide +kernel
theorem d_Mod_loop_7 : decode m_Mod_loop.2.1 7 = .ok (.iload 4, 2) := by decide +kernel
theorem d_Mod_loop_9 : decode m_Mod_loop.2.1 9 = .ok (.ifCond .ge 14, 3) := by decide +kernel
theorem d_Mod_loop_12 : decode m_Mod_loop.2.1 12 = .ok (.aload_n 0, 1) := by decide +kernel
theorem d_Mod_loop_13 : decode m_Mod_loop.2.1 13 = .ok (.iconst 2, 1) := by decide +kernel
theorem d_Mod_loop_14 : decode m_Mod_loop.2.1 14 = .ok (.iload_n 1, 1) := by decide +kernel
theorem d_Mod_loop_15 : decode m_Mod_loop.2.1 15 = .ok (.iload_n 2, 1) := by decide +kernel
theorem d_Mod_loop_16 : decode m_Mod_loop.2.1 16 = .ok (.iconst 0, 1) := by decide +kernel
theorem d_Mod_loop_17 : decode m_Mod_loop.2.1 17 = .ok (.invokevirtual 121, 3) := by decide +kernel
theorem d_Mod_loop_20 : decode m_Mod_loop.2.1 20 = .ok (.goto 31, 3) := by decide +kernel
theorem d_Mod_loop_23 : decode m_Mod_loop.2.1 23 = .ok (.aload_n 0, 1) := by decide +kernel
theorem d_Mod_loop_24 : decode m_Mod_loop.2.1 24 = .ok (.bipush 6, 2) := by decide +kernel
theorem d_Mod_loop_26 : decode m_Mod_loop.2.1 26 = .ok (.aload_n 0, 1) := by decide +kernel
theorem d_Mod_loop_27 : decode m_Mod_loop.2.1 27 = .ok (.getfield 70, 3) := by decide +kernel
theorem d_Mod_loop_30 : decode m_Mod_loop.2.1 30 = .ok (.iconst 4, 1) := by decide +kernel
theorem d_Mod_loop_31 : decode m_Mod_loop.2.1 31 = .ok (.iload 4, 2) := by decide +kernel
theorem d_Mod_loop_33 : decode m_Mod_loop.2.1 33 = .ok (.imul, 1) := by decide +kernel
theorem d_Mod_loop_34 : decode m_Mod_loop.2.1 34 = .ok (.iconst 3, 1) := by decide +kernel
theorem d_Mod_loop_35 : decode m_Mod_loop.2.1 35 = .ok (.iadd, 1) := by decide +kernel
theorem d_Mod_loop_36 : decode m_Mod_loop.2.1 36 = .ok (.iaload, 1) := by decide +kernel
theorem d_Mod_loop_37 : decode m_Mod_loop.2.1 37 = .ok (.iconst 0, 1) := by decide +kernel
theorem d_Mod_loop_38 : decode m_Mod_loop.2.1 38 = .ok (.iconst 0, 1) := by decide +kernel
theorem d_Mod_loop_39 : decode m_Mod_loop.2.1 39 = .ok (.invokevirtual 121, 3) := by decide +kernel
theorem d_Mod_loop_42 : decode m_Mod_loop.2.1 42 = .ok (.aload_n 0, 1) := by decide +kernel
theorem d_Mod_loop_43 : decode m_Mod_loop.2.1 43 = .ok (.bipush 8, 2) := by decide +kernel
theorem d_Mod_loop_45 : decode m_Mod_loop.2.1 45 = .ok (.iload_n 1, 1) := by decide +kernel
theorem d_Mod_loop_46 : decode m_Mod_loop.2.1 46 = .ok (.iload_n 2, 1) := by decide +kernel
theorem d_Mod_loop_47 : decode m_Mod_loop.2.1 47 = .ok (.iconst 0, 1) := by decide +kernel
theorem d_Mod_loop_48 : decode m_Mod_loop.2.1 48 = .ok (.invokevirtual 121, 3) := by decide +kernel
theorem d_Mod_loop_51 : decode m_Mod_loop.2.1 51 = .ok (.aload_n 0, 1) := by decide +kernel
theorem d_Mod_loop_52 : decode m_Mod_loop.2.1 52 = .ok (.getfield 110, 3) := by decide +kernel
theorem d_Mod_loop_55 : decode m_Mod_loop.2.1 55 = .ok (.istore 5, 2) := by decide +kernel
theorem d_Mod_loop_57 : decode m_Mod_loop.2.1 57 = .ok (.iconst 0, 1) := by decide +kernel
theorem d_Mod_loop_58 : decode m_Mod_loop.2.1 58 = .ok (.istore 6, 2) := by decide +kernel
theorem d_Mod_loop_60 : decode m_Mod_loop.2.1 60 = .ok (.iload 6, 2) := by decide +kernel
theorem d_Mod_loop_62 : decode m_Mod_loop.2.1 62 = .ok (.aload_n 0, 1) := by decide +kernel
theorem d_Mod_loop_63 : decode m_Mod_loop.2.1 63 = .ok (.getfield 174, 3) := by decide +kernel
theorem d_Mod_loop_66 : decode m_Mod_loop.2.1 66 = .ok (.if_icmp .ge 104, 3) := by decide +kernel
theorem d_Mod_loop_69 : decode m_Mod_loop.2.1 69 = .ok (.aload_n 0, 1) := by decide +kernel
theorem d_Mod_loop_70 : decode m_Mod_loop.2.1 70 = .ok (.getfield 70, 3) := by decide +kernel
theorem d_Mod_loop_73 : decode m_Mod_loop.2.1 73 = .ok (.iconst 4, 1) := by decide +kernel
theorem d_Mod_loop_74 : decode m_Mod_loop.2.1 74 = .ok (.iload 6, 2) := by decide +kernel
theorem d_Mod_loop_76 : decode m_Mod_loop.2.1 76 = .ok (.imul, 1) := by decide +kernel
theorem d_Mod_loop_77 : decode m_Mod_loop.2.1 77 = .ok (.iaload, 1) := by decide +kernel
theorem d_Mod_loop_78 : decode m_Mod_loop.2.1 78 = .ok (.iload_n 1, 1) := by decide +kernel
theorem d_Mod_loop_79 : decode m_Mod_loop.2.1 79 = .ok (.if_icmp .ne 85, 3) := by decide +kernel
theorem d_Mod_loop_82 : decode m_Mod_loop.2.1 82 = .ok (.aload_n 0, 1) := by decide +kernel
theorem d_Mod_loop_83 : decode m_Mod_loop.2.1 83 = .ok (.getfield 70, 3) := by decide +kernel
theorem d_Mod_loop_86 : decode m_Mod_loop.2.1 86 = .ok (.iconst 4, 1) := by decide +kernel
theorem d_Mod_loop_87 : decode m_Mod_loop.2.1 87 = .ok (.iload 6, 2) := by decide +kernel
theorem d_Mod_loop_89 : decode m_Mod_loop.2.1 89 = .ok (.imul, 1) := by decide +kernel
theorem d_Mod_loop_90 : decode m_Mod_loop.2.1 90 = .ok (.iconst 2, 1) := by decide +kernel
theorem d_Mod_loop_91 : decode m_Mod_loop.2.1 91 = .ok (.iadd, 1) := by decide +kernel
theorem d_Mod_loop_92 : decode m_Mod_loop.2.1 92 = .ok (.iaload, 1) := by decide +kernel
theorem d_Mod_loop_93 : decode m_Mod_loop.2.1 93 = .ok (.istore 7, 2) := by decide +kernel
theorem d_Mod_loop_95 : decode m_Mod_loop.2.1 95 = .ok (.aload_n 0, 1) := by decide +kernel
theorem d_Mod_loop_96 : decode m_Mod_loop.2.1 96 = .ok (.iload_n 1, 1) := by decide +kernel
theorem d_Mod_loop_97 : decode m_Mod_loop.2.1 97 = .ok (.aload_n 0, 1) := by decide +kernel
theorem d_Mod_loop_98 : decode m_Mod_loop.2.1 98 = .ok (.getfield 70, 3) := by decide +kernel
theorem d_Mod_loop_101 : decode m_Mod_loop.2.1 101 = .ok (.iconst 4, 1) := by decide +kernel
theorem d_Mod_loop_102 : decode m_Mod_loop.2.1 102 = .ok (.iload 6, 2) := by decide +kernel
theorem d_Mod_loop_104 : decode m_Mod_loop.2.1 104 = .ok (.imul, 1) := by decide +kernel
theorem d_Mod_loop_105 : decode m_Mod_loop.2.1 105 = .ok (.iconst 1, 1) := by decide +kernel
theorem d_Mod_loop_106 : decode m_Mod_loop.2.1 106 = .ok (.iadd, 1) := by decide +kernel
theorem d_Mod_loop_107 : decode m_Mod_loop.2.1 107 = .ok (.iaload, 1) := by decide +kernel
theorem d_Mod_loop_108 : decode m_Mod_loop.2.1 108 = .ok (.iconst 0, 1) := by decide +kernel
theorem d_Mod_loop_109 : decode m_Mod_loop.2.1 109 = .ok (.invokevirtual 196, 3) := by decide +kernel
theorem d_Mod_loop_112 : decode m_Mod_loop.2.1 112 = .ok (.iload 7, 2) := by decide +kernel
theorem d_Mod_loop_114 : decode m_Mod_loop.2.1 114 = .ok (.bipush 6, 2) := by decide +kernel
theorem d_Mod_loop_116 : decode m_Mod_loop.2.1 116 = .ok (.if_icmp .ge 22, 3) := by decide +kernel
theorem d_Mod_loop_119 : decode m_Mod_loop.2.1 119 = .ok (.aload_n 0, 1) := by decide +kernel
theorem d_Mod_loop_120 : decode m_Mod_loop.2.1 120 = .ok (.bipush 6, 2) := by decide +kernel
theorem d_Mod_loop_122 : decode m_Mod_loop.2.1 122 = .ok (.aload_n 0, 1) := by decide +kernel
theorem d_Mod_loop_123 : decode m_Mod_loop.2.1 123 = .ok (.getfield 70, 3) := by decide +kernel
theorem d_Mod_loop_126 : decode m_Mod_loop.2.1 126 = .ok (.iconst 4, 1) := by decide +kernel
theorem d_Mod_loop_127 : decode m_Mod_loop.2.1 127 = .ok (.iload 6, 2) := by decide +kernel
theorem d_Mod_loop_129 : decode m_Mod_loop.2.1 129 = .ok (.imul, 1) := by decide +kernel
theorem d_Mod_loop_130 : decode m_Mod_loop.2.1 130 = .ok (.iconst 3, 1) := by decide +kernel
theorem d_Mod_loop_131 : decode m_Mod_loop.2.1 131 = .ok (.iadd, 1) := by decide +kernel
theorem d_Mod_loop_132 : decode m_Mod_loop.2.1 132 = .ok (.iaload, 1) := by decide +kernel
theorem d_Mod_loop_133 : decode m_Mod_loop.2.1 133 = .ok (.iconst 1, 1) := by decide +kernel
theorem d_Mod_loop_134 : decode m_Mod_loop.2.1 134 = .ok (.iconst 0, 1) := by decide +kernel
theorem d_Mod_loop_135 : decode m_Mod_loop.2.1 135 = .ok (.invokevirtual 121, 3) := by decide +kernel
theorem d_Mod_loop_138 : decode m_Mod_loop.2.1 138 = .ok (.aload_n 0, 1) := by decide +kernel
theorem d_Mod_loop_139 : decode m_Mod_loop.2.1 139 = .ok (.bipush 9, 2) := by decide +kernel
theorem d_Mod_loop_141 : decode m_Mod_loop.2.1 141 = .ok (.iload 7, 2) := by decide +kernel
theorem d_Mod_loop_143 : decode m_Mod_loop.2.1 143 = .ok (.iadd, 1) := by decide +kernel
theorem d_Mod_loop_144 : decode m_Mod_loop.2.1 144 = .ok (.iconst 0, 1) := by decide +kernel
theorem d_Mod_loop_145 : decode m_Mod_loop.2.1 145 = .ok (.aload_n 0, 1) := by decide +kernel
theorem d_Mod_loop_146 : decode m_Mod_loop.2.1 146 = .ok (.getfield 110, 3) := by decide +kernel
theorem d_Mod_loop_149 : decode m_Mod_loop.2.1 149 = .ok (.iconst 2, 1) := by decide +kernel
theorem d_Mod_loop_150 : decode m_Mod_loop.2.1 150 = .ok (.iadd, 1) := by decide +kernel
theorem d_Mod_loop_151 : decode m_Mod_loop.2.1 151 = .ok (.iconst 1, 1) := by decide +kernel
theorem d_Mod_loop_152 : decode m_Mod_loop.2.1 152 = .ok (.invokevirtual 121, 3) := by decide +kernel
theorem d_Mod_loop_155 : decode m_Mod_loop.2.1 155 = .ok (.aload_n 0, 1) := by decide +kernel
theorem d_Mod_loop_156 : decode m_Mod_loop.2.1 156 = .ok (.bipush 19, 2) := by decide +kernel
theorem d_Mod_loop_158 : decode m_Mod_loop.2.1 158 = .ok (.iload_n 3, 1) := by decide +kernel
theorem d_Mod_loop_159 : decode m_Mod_loop.2.1 159 = .ok (.iconst 0, 1) := by decide +kernel
theorem d_Mod_loop_160 : decode m_Mod_loop.2.1 160 = .ok (.iconst 0, 1) := by decide +kernel
theorem d_Mod_loop_161 : decode m_Mod_loop.2.1 161 = .ok (.invokevirtual 121, 3) := by decide +kernel
theorem d_Mod_loop_164 : decode m_Mod_loop.2.1 164 = .ok (.iinc 6 1, 3) := by decide +kernel
theorem d_Mod_loop_167 : decode m_Mod_loop.2.1 167 = .ok (.goto (-107), 3) := by decide +kernel
theorem d_Mod_loop_170 : decode m_Mod_loop.2.1 170 = .ok (.iload 5, 2) := by decide +kernel
theorem d_Mod_loop_172 : decode m_Mod_loop.2.1 172 = .ok (.ireturn, 1) := by decide +kernel
theorem d_Mod_read_0 : decode m_Mod_read.2.1 0 = .ok (.iload_n 2, 1) := by decide +kernel
theorem d_Mod_read_1 : decode m_Mod_read.2.1 1 = .ok (.iconst (-1), 1) := by decide +kernel
theorem d_Mod_read_2 : decode m_Mod_read.2.1 2 = .ok (.if_icmp .ne 14, 3) := by decide +kernel
theorem d_Mod_read_5 : decode m_Mod_read.2.1 5 = .ok (.aload_n 0, 1) := by decide +kernel
theorem d_Mod_read_6 : decode m_Mod_read.2.1 6 = .ok (.iconst 5, 1) := by decide +kernel
theorem d_Mod_read_7 : decode m_Mod_read.2.1 7 = .ok (.iload_n 1, 1) := by decide +kernel
theorem d_Mod_read_8 : decode m_Mod_read.2.1 8 = .ok (.iload_n 3, 1) := by decide +kernel
theorem d_Mod_read_9 : decode m_Mod_read.2.1 9 = .ok (.iconst 0, 1) := by decide +kernel
theorem d_Mod_read_10 : decode m_Mod_read.2.1 10 = .ok (.invokevirtual 121, 3) := by decide +kernel
theorem d_Mod_read_13 : decode m_Mod_read.2.1 13 = .ok (.goto 11, 3) := by decide +kernel
theorem d_Mod_read_16 : decode m_Mod_read.2.1 16 = .ok (.aload_n 0, 1) := by decide +kernel
theorem d_Mod_read_17 : decode m_Mod_read.2.1 17 = .ok (.iconst 4, 1) := by decide +kernel
theorem d_Mod_read_18 : decode m_Mod_read.2.1 18 = .ok (.iload_n 1, 1) := by decide +kernel
theorem d_Mod_read_19 : decode m_Mod_read.2.1 19 = .ok (.iload_n 2, 1) := by decide +kernel
theorem d_Mod_read_20 : decode m_Mod_read.2.1 20 = .ok (.iload_n 3, 1) := by decide +kernel
theorem d_Mod_read_21 : decode m_Mod_read.2.1 21 = .ok (.invokevirtual 121, 3) := by decide +kernel
theorem d_Mod_read_24 : decode m_Mod_read.2.1 24 = .ok (.return_, 1) := by decide +kernel
theorem d_Mod_outputsAndResult_0 : decode m_Mod_outputsAndResult.2.1 0 = .ok (.iconst 0, 1) := by decide +kernel
theorem d_Mod_outputsAndResult_1 : decode m_Mod_outputsAndResult.2.1 1 = .ok (.istore_n 1, 1) := by decide +kernel
theorem d_Mod_outputsAndResult_2 : decode m_Mod_outputsAndResult.2.1 2 = .ok (.iload_n 1, 1) := by decide +kernel
theorem d_Mod_outputsAndResult_3 : decode m_Mod_outputsAndResult.2.1 3 = .ok (.aload_n 0, 1) := by decide +kernel
theorem d_Mod_outputsAndResult_4 : decode m_Mod_outputsAndResult.2.1 4 = .ok (.getfield 171, 3) := by decide +kernel
theorem d_Mod_outputsAndResult_7 : decode m_Mod_outputsAndResult.2.1 7 = .ok (.if_icmp .ge 34, 3) := by decide +kernel
theorem d_Mod_outputsAndResult_10 : decode m_Mod_outputsAndResult.2.1 10 = .ok (.aload_n 0, 1) := by decide +kernel
theorem d_Mod_outputsAndResult_11 : decode m_Mod_outputsAndResult.2.1 11 = .ok (.aload_n 0, 1) := by decide +kernel
theorem d_Mod_outputsAndResult_12 : decode m_Mod_outputsAndResult.2.1 12 = .ok (.getfield 67, 3) := by decide +kernel
theorem d_Mod_outputsAndResult_15 : decode m_Mod_outputsAndResult.2.1 15 = .ok (.iconst 2, 1) := by decide +kernel
theorem d_Mod_outputsAndResult_16 : decode m_Mod_outputsAndResult.2.1 16 = .ok (.iload_n 1, 1) := by decide +kernel
theorem d_Mod_outputsAndResult_17 : decode m_Mod_outputsAndResult.2.1 17 = .ok (.imul, 1) := by decide +kernel
theorem d_Mod_outputsAndResult_18 : decode m_Mod_outputsAndResult.2.1 18 = .ok (.iaload, 1) := by decide +kernel
theorem d_Mod_outputsAndResult_19 : decode m_Mod_outputsAndResult.2.1 19 = .ok (.aload_n 0, 1) := by decide +kernel
theorem d_Mod_outputsAndResult_20 : decode m_Mod_outputsAndResult.2.1 20 = .ok (.getfield 67, 3) := by decide +kernel
theorem d_Mod_outputsAndResult_23 : decode m_Mod_outputsAndResult.2.1 23 = .ok (.iconst 2, 1) := by decide +kernel
theorem d_Mod_outputsAndResult_24 : decode m_Mod_outputsAndResult.2.1 24 = .ok (.iload_n 1, 1) := by decide +kernel
theorem d_Mod_outputsAndResult_25 : decode m_Mod_outputsAndResult.2.1 25 = .ok (.imul, 1) := by decide +kernel
theorem d_Mod_outputsAndResult_26 : decode m_Mod_outputsAndResult.2.1 26 = .ok (.iconst 1, 1) := by decide +kernel
theorem d_Mod_outputsAndResult_27 : decode m_Mod_outputsAndResult.2.1 27 = .ok (.iadd, 1) := by decide +kernel
theorem d_Mod_outputsAndResult_28 : decode m_Mod_outputsAndResult.2.1 28 = .ok (.iaload, 1) := by decide +kernel
theorem d_Mod_outputsAndResult_29 : decode m_Mod_outputsAndResult.2.1 29 = .ok (.iconst 2, 1) := by decide +kernel
theorem d_Mod_outputsAndResult_30 : decode m_Mod_outputsAndResult.2.1 30 = .ok (.iload_n 1, 1) := by decide +kernel
theorem d_Mod_outputsAndResult_31 : decode m_Mod_outputsAndResult.2.1 31 = .ok (.iadd, 1) := by decide +kernel
theorem d_Mod_outputsAndResult_32 : decode m_Mod_outputsAndResult.2.1 32 = .ok (.invokevirtual 196, 3) := by decide +kernel
theorem d_Mod_outputsAndResult_35 : decode m_Mod_outputsAndResult.2.1 35 = .ok (.iinc 1 1, 3) := by decide +kernel
theorem d_Mod_outputsAndResult_38 : decode m_Mod_outputsAndResult.2.1 38 = .ok (.goto (-36), 3) := by decide +kernel
theorem d_Mod_outputsAndResult_41 : decode m_Mod_outputsAndResult.2.1 41 = .ok (.aload_n 0, 1) := by decide +kernel
theorem d_Mod_outputsAndResult_42 : decode m_Mod_outputsAndResult.2.1 42 = .ok (.bipush 18, 2) := by decide +kernel
theorem d_Mod_outputsAndResult_44 : decode m_Mod_outputsAndResult.2.1 44 = .ok (.iconst 2, 1) := by decide +kernel
theorem d_Mod_outputsAndResult_45 : decode m_Mod_outputsAndResult.2.1 45 = .ok (.aload_n 0, 1) := by decide +kernel
theorem d_Mod_outputsAndResult_46 : decode m_Mod_outputsAndResult.2.1 46 = .ok (.getfield 171, 3) := by decide +kernel
theorem d_Mod_outputsAndResult_49 : decode m_Mod_outputsAndResult.2.1 49 = .ok (.iconst 0, 1) := by decide +kernel
theorem d_Mod_outputsAndResult_50 : decode m_Mod_outputsAndResult.2.1 50 = .ok (.invokevirtual 121, 3) := by decide +kernel
theorem d_Mod_outputsAndResult_53 : decode m_Mod_outputsAndResult.2.1 53 = .ok (.return_, 1) := by decide +kernel
end
section
/-! leaves: contracts of the small methods -/
set_option maxRecDepth 100000 in
set_option maxHeartbeats 4000000 in
theorem c_isIndex (X : zX) (d : Nat) (i n : Int32) (h : zH) (N : Nat) : zC X d m_TM_isIndex 0 0 false [.int i, .int n] h N (some (.int (zb (decide (0 ≤ i) && decide (i < n))))) h N := by
  refine zC_of (by decide) (Nat.le_of_ble_eq_true rfl) ?_
  refine z_iload_n d_TM_isIndex_0 rfl ?_
  refine z_if_lt d_TM_isIndex_1 13 (by decide) (fun h1 => ?_) (fun h1 => ?_)
  · refine z_iconst (v := 0) d_TM_isIndex_13 (by decide) ?_
    exact z_zret d_TM_isIndex_14 rfl (by decide) (by decide) (by decide) (by first | rfl | (simp_all [zb]; done) | grind [zb]) rfl
  · refine z_iload_n d_TM_isIndex_4 rfl ?_
    refine z_iload_n d_TM_isIndex_5 rfl ?_
    refine z_icmp_ge d_TM_isIndex_6 13 (by decide) (fun h6 => ?_) (fun h6 => ?_)
    · refine z_iconst (v := 0) d_TM_isIndex_13 (by decide) ?_
      exact z_zret d_TM_isIndex_14 rfl (by decide) (by decide) (by decide) (by first | rfl | (simp_all [zb]; done) | grind [zb]) rfl
    · refine z_iconst (v := 1) d_TM_isIndex_9 (by decide) ?_
      refine z_goto d_TM_isIndex_10 14 (by decide) ?_
      exact z_zret d_TM_isIndex_14 rfl (by decide) (by decide) (by decide) (by first | rfl | (simp_all [zb]; done) | grind [zb]) rfl
/-- the cells a, a + 1, a + 2 are a strip of len values -/
def zVal (a len : Nat) : Prop := a + 2 < 60 ∧ (∀ f g, zsh a f g = .inr (4, [.ref (a + 1), .ref (a + 2)])) ∧ (∀ f g, zsh (a + 1) f g = zAl len g) ∧ (∀ f g, zsh (a + 2) f g = zAz len f)
theorem zVal4 : zVal 4 360 := ⟨by decide, fun _ _ => rfl, fun _ _ => rfl, fun _ _ => rfl⟩
theorem zVal19 : zVal 19 256 := ⟨by decide, fun _ _ => rfl, fun _ _ => rfl, fun _ _ => rfl⟩
theorem zVal22 : zVal 22 16 := ⟨by decide, fun _ _ => rfl, fun _ _ => rfl, fun _ _ => rfl⟩
theorem zVal29 : zVal 29 4 := ⟨by decide, fun _ _ => rfl, fun _ _ => rfl, fun _ _ => rfl⟩
set_option maxRecDepth 100000 in
set_option maxHeartbeats 4000000 in
theorem c_Val_has (X : zX) (d : Nat) {a len t : Nat} {i : Int32} (hv : zVal a len) (hi : zin i t len) (J : zJT) (G : zGT) (hb : narrow .boolean (.int (J (a + 2) t)) = .int (J (a + 2) t)) : zK X d m_Val_has [.ref a, .int i] J G (some (.int (J (a + 2) t))) J G := by
  refine zC_of (by decide) (Nat.le_of_ble_eq_true rfl) ?_
  refine z_aload_n d_Val_has_0 rfl ?_
  refine z_get d_Val_has_1 f_Val_13 (by have := hv.1; omega) (hv.2.1 _ _) rfl ?_
  refine z_iload_n d_Val_has_4 rfl ?_
  refine z_zald d_Val_has_5 (by have := hv.1; omega) (hv.2.2.2 _ _) hi ?_
  exact z_zret d_Val_has_6 rfl (by decide) (by decide) hb rfl rfl
set_option maxRecDepth 100000 in
set_option maxHeartbeats 4000000 in
theorem c_Val_number (X : zX) (d : Nat) {a len t : Nat} {i : Int32} (hv : zVal a len) (hi : zin i t len) (J : zJT) (G : zGT) : zK X d m_Val_number [.ref a, .int i] J G (some (.long (G (a + 1) t))) J G := by
  refine zC_of (by decide) (Nat.le_of_ble_eq_true rfl) ?_
  refine z_aload_n d_Val_number_0 rfl ?_
  refine z_get d_Val_number_1 f_Val_7 (by have := hv.1; omega) (hv.2.1 _ _) rfl ?_
  refine z_iload_n d_Val_number_4 rfl ?_
  refine z_lald d_Val_number_5 (by have := hv.1; omega) (hv.2.2.1 _ _) hi ?_
  exact z_lret d_Val_number_6 rfl (by decide) (by decide) rfl rfl
set_option maxRecDepth 100000 in
set_option maxHeartbeats 4000000 in
theorem c_Val_put (X : zX) (d : Nat) {a len t : Nat} {i : Int32} (hv : zVal a len) (hi : zin i t len) (J : zJT) (G : zGT) (x : Int64) : zK X d m_Val_put [.ref a, .int i, .long x] J G none (va_up J (a + 2) (upd (J (a + 2)) t 1)) (va_up G (a + 1) (vp_updL (G (a + 1)) t x)) := by
  refine zC_of (by decide) (Nat.le_of_ble_eq_true rfl) ?_
  refine z_aload_n d_Val_put_0 rfl ?_
  refine z_get d_Val_put_1 f_Val_7 (by have := hv.1; omega) (hv.2.1 _ _) rfl ?_
  refine z_iload_n d_Val_put_4 rfl ?_
  refine z_lload_n d_Val_put_5 rfl ?_
  refine z_last d_Val_put_6 (by have := hv.1; omega) (hv.2.2.1 _ _) hi (hp_al (hv.2.2.1 _ _).symm) ?_
  refine z_aload_n d_Val_put_7 rfl ?_
  refine z_get d_Val_put_8 f_Val_13 (by have := hv.1; omega) (hv.2.1 _ _) rfl ?_
  refine z_iload_n d_Val_put_11 rfl ?_
  refine z_iconst (v := 1) d_Val_put_12 (by decide) ?_
  refine z_zast d_Val_put_13 (by have := hv.1; omega) (hv.2.2.2 _ _) hi (by decide) (hp_ai (hv.2.2.2 _ _).symm) ?_
  exact z_vret d_Val_put_14 rfl (by decide) (by decide) rfl
set_option maxRecDepth 100000 in
set_option maxHeartbeats 4000000 in
theorem c_Val_clear (X : zX) (d : Nat) {a len t : Nat} {i : Int32} (hv : zVal a len) (hi : zin i t len) (J : zJT) (G : zGT) : zK X d m_Val_clear [.ref a, .int i] J G none (va_up J (a + 2) (upd (J (a + 2)) t 0)) (va_up G (a + 1) (vp_updL (G (a + 1)) t 0)) := by
  refine zC_of (by decide) (Nat.le_of_ble_eq_true rfl) ?_
  refine z_aload_n d_Val_clear_0 rfl ?_
  refine z_get d_Val_clear_1 f_Val_7 (by have := hv.1; omega) (hv.2.1 _ _) rfl ?_
  refine z_iload_n d_Val_clear_4 rfl ?_
  refine z_lconst (v := 0) d_Val_clear_5 (by decide) ?_
  refine z_last d_Val_clear_6 (by have := hv.1; omega) (hv.2.2.1 _ _) hi (hp_al (hv.2.2.1 _ _).symm) ?_
  refine z_aload_n d_Val_clear_7 rfl ?_
  refine z_get d_Val_clear_8 f_Val_13 (by have := hv.1; omega) (hv.2.1 _ _) rfl ?_
  refine z_iload_n d_Val_clear_11 rfl ?_
  refine z_iconst (v := 0) d_Val_clear_12 (by decide) ?_
  refine z_zast d_Val_clear_13 (by have := hv.1; omega) (hv.2.2.2 _ _) hi (by decide) (hp_ai (hv.2.2.2 _ _).symm) ?_
  exact z_vret d_Val_clear_14 rfl (by decide) (by decide) rfl
end
section
theorem zu_s {α : Type} (f : Nat → α) (a : Nat) (v : α) : va_up f a v a = v := by simp [va_up]
theorem zu_n {α : Type} {f : Nat → α} {a b : Nat} {v : α} (h : b ≠ a) : va_up f a v b = f b := by simp [va_up, h]
theorem zin_w {k w : Nat} (h : k < 60) (hw : w < 4) : zin (nI k * 4 + nI w) (4 * k + w) 240 := by
  refine ⟨?_, by omega, by decide⟩
  rw [show (4 : Int32) = nI 4 from rfl, pk_mul, nI_add, Nat.mul_comm]
/-- the three tables, their rows' slots; the three cursors -/
theorem zt_at {t : Nat} (h : t < 3) : (if t = 0 then some 9 else if t = 1 then some 11 else if t = 2 then some 13 else none : Option Nat) = some (9 + 2 * t) := by
  rcases (show t = 0 ∨ t = 1 ∨ t = 2 by omega) with rfl | rfl | rfl <;> rfl
theorem zt_c {t : Nat} (h : t < 3) (f : Nat → Int32) (g : Nat → Int64) : zsh (9 + 2 * t) f g = .inr (3, [.int (f 0), .int (f 1), .ref (10 + 2 * t)]) := by
  rcases (show t = 0 ∨ t = 1 ∨ t = 2 by omega) with rfl | rfl | rfl <;> rfl
theorem zt_s {t : Nat} (h : t < 3) (f : Nat → Int32) (g : Nat → Int64) : zsh (10 + 2 * t) f g = zAi 90 f := by
  rcases (show t = 0 ∨ t = 1 ∨ t = 2 by omega) with rfl | rfl | rfl <;> rfl
theorem zc_at {t : Nat} (h : t < 3) : (if t = 0 then some 26 else if t = 1 then some 27 else if t = 2 then some 28 else none : Option Nat) = some (26 + t) := by
  rcases (show t = 0 ∨ t = 1 ∨ t = 2 by omega) with rfl | rfl | rfl <;> rfl
theorem zc_c {t : Nat} (h : t < 3) (f : Nat → Int32) (g : Nat → Int64) : zsh (26 + t) f g = .inr (5, [.int (f 0), .int (f 1), .long (g 2)]) := by
  rcases (show t = 0 ∨ t = 1 ∨ t = 2 by omega) with rfl | rfl | rfl <;> rfl
set_option maxRecDepth 100000 in
set_option maxHeartbeats 4000000 in
theorem c_Val_copy (X : zX) {a len t b len2 u : Nat} {i j : Int32} (hv : zVal a len) (hi : zin i t len) (hw : zVal b len2) (hj : zin j u len2) (J : zJT) (G : zGT) (hb : vp_nar .boolean (J (b + 2) u) = J (b + 2) u) : zK X 0 m_Val_copy [.ref a, .int i, .ref b, .int j] J G none (va_up J (a + 2) (upd (J (a + 2)) t (J (b + 2) u))) (va_up G (a + 1) (vp_updL (G (a + 1)) t (G (b + 1) u))) := by
  refine zC_of (by decide) (Nat.le_of_ble_eq_true rfl) ?_
  refine z_aload_n d_Val_copy_0 rfl ?_
  refine z_get d_Val_copy_1 f_Val_7 (by have := hv.1; have := hw.1; omega) (hv.2.1 _ _) rfl ?_
  refine z_iload_n d_Val_copy_4 rfl ?_
  refine z_aload_n d_Val_copy_5 rfl ?_
  refine z_get d_Val_copy_6 f_Val_7 (by have := hv.1; have := hw.1; omega) (hw.2.1 _ _) rfl ?_
  refine z_iload_n d_Val_copy_9 rfl ?_
  refine z_lald d_Val_copy_10 (by have := hv.1; have := hw.1; omega) (hw.2.2.1 _ _) hj ?_
  refine z_last d_Val_copy_11 (by have := hv.1; have := hw.1; omega) (hv.2.2.1 _ _) hi (hp_al (hv.2.2.1 _ _).symm) ?_
  refine z_aload_n d_Val_copy_12 rfl ?_
  refine z_get d_Val_copy_13 f_Val_13 (by have := hv.1; have := hw.1; omega) (hv.2.1 _ _) rfl ?_
  refine z_iload_n d_Val_copy_16 rfl ?_
  refine z_aload_n d_Val_copy_17 rfl ?_
  refine z_get d_Val_copy_18 f_Val_13 (by have := hv.1; have := hw.1; omega) (hw.2.1 _ _) rfl ?_
  refine z_iload_n d_Val_copy_21 rfl ?_
  refine z_zald d_Val_copy_22 (by have := hv.1; have := hw.1; omega) (hw.2.2.2 _ _) hj ?_
  refine z_zast d_Val_copy_23 (by have := hv.1; have := hw.1; omega) (hv.2.2.2 _ _) hi hb (hp_ai (hv.2.2.2 _ _).symm) ?_
  exact z_vret d_Val_copy_24 rfl (by decide) (by decide) rfl
set_option maxRecDepth 100000 in
set_option maxHeartbeats 4000000 in
theorem c_Cur_open (X : zX) {t : Nat} (ht : t < 3) (v : Int32) (J : zJT) (G : zGT) : zK X 0 m_Cur_open [.ref (26 + t), .int v] J G none (va_up J (26 + t) (va_up (va_up (J (26 + t)) 0 v) 1 0)) G := by
  refine zC_of (by decide) (Nat.le_of_ble_eq_true rfl) ?_
  refine z_aload_n d_Cur_open_0 rfl ?_
  refine z_iload_n d_Cur_open_1 rfl ?_
  refine z_put d_Cur_open_2 f_Cur_9 p_5_0 (by omega) (zc_c ht _ _) (Nat.le_of_ble_eq_true rfl) rfl rfl (hp_pi 0 (zc_c ht (va_up (J (26 + t)) 0 v) _).symm) ?_
  refine z_aload_n d_Cur_open_5 rfl ?_
  refine z_iconst (v := 0) d_Cur_open_6 (by decide) ?_
  refine z_put d_Cur_open_7 f_Cur_15 p_5_1 (by omega) (zc_c ht _ _) (Nat.le_of_ble_eq_true rfl) (zb_n false) (zb_f false) (hp_pi 1 (zc_c ht (va_up (va_up J (26 + t) (va_up (J (26 + t)) 0 v) (26 + t)) 1 0) _).symm) ?_
  exact z_vret d_Cur_open_10 rfl (by decide) (by decide) (by simp [bx_uu, zu_s])
set_option maxRecDepth 100000 in
set_option maxHeartbeats 4000000 in
theorem c_Cur_shut (X : zX) {t : Nat} (ht : t < 3) (J : zJT) (G : zGT) : zK X 1 m_Cur_shut [.ref (26 + t)] J G none (va_up J (26 + t) (va_up (va_up (J (26 + t)) 0 (-1)) 1 0)) G := by
  refine zC_of (by decide) (Nat.le_of_ble_eq_true rfl) ?_
  refine z_aload_n d_Cur_shut_0 rfl ?_
  refine z_iconst (v := (-1)) d_Cur_shut_1 (by decide) ?_
  refine z_callV0 d_Cur_shut_2 g_Cur_23 (c_Cur_open X ht (-1) J G) (by omega) (zc_c ht _ _) rfl rfl ⟨by decide, by decide, by decide, by decide⟩ rfl (Nat.le_of_ble_eq_true rfl) ?_
  exact z_vret d_Cur_shut_5 rfl (by decide) (by decide) rfl
set_option maxRecDepth 100000 in
set_option maxHeartbeats 4000000 in
theorem c_Cur_isShut (X : zX) {t : Nat} (ht : t < 3) (J : zJT) (G : zGT) : zK X 0 m_Cur_isShut [.ref (26 + t)] J G (some (.int (zb (decide (J (26 + t) 0 = -1))))) J G := by
  refine zC_of (by decide) (Nat.le_of_ble_eq_true rfl) ?_
  refine z_aload_n d_Cur_isShut_0 rfl ?_
  refine z_get d_Cur_isShut_1 f_Cur_9 (by omega) (zc_c ht _ _) rfl ?_
  refine z_iconst (v := (-1)) d_Cur_isShut_4 (by decide) ?_
  refine z_icmp_ne d_Cur_isShut_5 12 (by decide) (fun h5 => ?_) (fun h5 => ?_)
  · refine z_iconst (v := 0) d_Cur_isShut_12 (by decide) ?_
    exact z_zret d_Cur_isShut_13 rfl (by decide) (by decide) (by decide) (by first | rfl | (simp_all [zb]; done) | grind [zb]) rfl
  · refine z_iconst (v := 1) d_Cur_isShut_8 (by decide) ?_
    refine z_goto d_Cur_isShut_9 13 (by decide) ?_
    exact z_zret d_Cur_isShut_13 rfl (by decide) (by decide) (by decide) (by first | rfl | (simp_all [zb]; done) | grind [zb]) rfl
set_option maxRecDepth 100000 in
set_option maxHeartbeats 4000000 in
theorem c_Pro_word (X : zX) {k w : Nat} (hk : k < 60) (hw : w < 4) (J : zJT) (G : zGT) : zK X 0 m_Pro_word [.ref 15, .int (nI k), .int (nI w)] J G (some (.int (J 16 (4 * k + w)))) J G := by
  refine zC_of (by decide) (Nat.le_of_ble_eq_true rfl) ?_
  refine z_aload_n d_Pro_word_0 rfl ?_
  refine z_get d_Pro_word_1 f_Pro_15 (by decide) rfl rfl ?_
  refine z_iload_n d_Pro_word_4 rfl ?_
  refine z_iconst (v := 4) d_Pro_word_5 (by decide) ?_
  refine z_imul d_Pro_word_6 ?_
  refine z_iload_n d_Pro_word_7 rfl ?_
  refine z_iadd d_Pro_word_8 ?_
  refine z_iald d_Pro_word_9 (by decide) rfl (zin_w hk hw) ?_
  exact z_iret d_Pro_word_10 rfl (by decide) (by decide) (by first | rfl | (simp_all; done) | grind) rfl
theorem zin_4 {k : Nat} {i : Int32} (h : k < 60) (hi : i = nI k * 4) (w : Nat) (hw : w < 4) : zin (i + nI w) (4 * k + w) 240 := by rw [hi]; exact zin_w h hw
/-- four words more -/
def zapp (f : Nat → Int32) (k : Nat) (o p q s : Int32) : Nat → Int32 := upd (upd (upd (upd f (4 * k) o) (4 * k + 1) p) (4 * k + 2) q) (4 * k + 3) s
set_option maxRecDepth 100000 in
set_option maxHeartbeats 4000000 in
theorem c_Pro_append (X : zX) {k : Nat} (hk : k < 60) (o p q s : Int32) (J : zJT) (G : zGT) (hJ : J 15 0 = nI k) : zK X 0 m_Pro_append [.ref 15, .int o, .int p, .int q, .int s] J G none (va_up (va_up J 16 (zapp (J 16) k o p q s)) 15 (va_up (J 15) 0 (nI k + 1))) G := by
  refine zC_of (by decide) (Nat.le_of_ble_eq_true rfl) ?_
  refine z_aload_n d_Pro_append_0 rfl ?_
  refine z_get d_Pro_append_1 f_Pro_9 (by decide) rfl rfl ?_
  refine z_iconst (v := 4) d_Pro_append_4 (by decide) ?_
  refine z_imul d_Pro_append_5 ?_
  refine z_istore (lv' := [(0, _), (1, _), (2, _), (3, _), (4, _), (5, _)]) d_Pro_append_6 (by decide) rfl ?_
  refine z_aload_n d_Pro_append_8 rfl ?_
  refine z_get d_Pro_append_9 f_Pro_15 (by decide) rfl rfl ?_
  refine z_iload d_Pro_append_12 rfl ?_
  refine z_iload_n d_Pro_append_14 rfl ?_
  refine z_iast d_Pro_append_15 (by decide) rfl (show zin _ (4 * k) 240 from ⟨by rw [hJ, show (4 : Int32) = nI 4 from rfl, pk_mul, Nat.mul_comm], by omega, by decide⟩) (hp_ai rfl) ?_
  refine z_aload_n d_Pro_append_16 rfl ?_
  refine z_get d_Pro_append_17 f_Pro_15 (by decide) rfl rfl ?_
  refine z_iload d_Pro_append_20 rfl ?_
  refine z_iconst (v := 1) d_Pro_append_22 (by decide) ?_
  refine z_iadd d_Pro_append_23 ?_
  refine z_iload_n d_Pro_append_24 rfl ?_
  refine z_iast d_Pro_append_25 (by decide) rfl (show zin _ (4 * k + 1) 240 from zin_4 hk (by rw [hJ]) 1 (by decide)) (hp_ai rfl) ?_
  refine z_aload_n d_Pro_append_26 rfl ?_
  refine z_get d_Pro_append_27 f_Pro_15 (by decide) rfl rfl ?_
  refine z_iload d_Pro_append_30 rfl ?_
  refine z_iconst (v := 2) d_Pro_append_32 (by decide) ?_
  refine z_iadd d_Pro_append_33 ?_
  refine z_iload_n d_Pro_append_34 rfl ?_
  refine z_iast d_Pro_append_35 (by decide) rfl (show zin _ (4 * k + 2) 240 from zin_4 hk (by rw [hJ]) 2 (by decide)) (hp_ai rfl) ?_
  refine z_aload_n d_Pro_append_36 rfl ?_
  refine z_get d_Pro_append_37 f_Pro_15 (by decide) rfl rfl ?_
  refine z_iload d_Pro_append_40 rfl ?_
  refine z_iconst (v := 3) d_Pro_append_42 (by decide) ?_
  refine z_iadd d_Pro_append_43 ?_
  refine z_iload d_Pro_append_44 rfl ?_
  refine z_iast d_Pro_append_46 (by decide) rfl (show zin _ (4 * k + 3) 240 from zin_4 hk (by rw [hJ]) 3 (by decide)) (hp_ai rfl) ?_
  refine z_aload_n d_Pro_append_47 rfl ?_
  refine z_dup d_Pro_append_48 rfl ?_
  refine z_get d_Pro_append_49 f_Pro_9 (by decide) rfl rfl ?_
  refine z_iconst (v := 1) d_Pro_append_52 (by decide) ?_
  refine z_iadd d_Pro_append_53 ?_
  refine z_put d_Pro_append_54 f_Pro_9 p_6_0 (by decide) rfl (Nat.le_of_ble_eq_true rfl) rfl rfl (hp_pi 0 rfl) ?_
  exact z_vret d_Pro_append_57 rfl (by decide) (by decide) (by simp [bx_uu, zu_s, zu_n, zapp, hJ])
set_option maxRecDepth 100000 in
set_option maxHeartbeats 4000000 in
theorem c_Res_hasRow (X : zX) (i : Int32) (J : zJT) (G : zGT) : zK X 1 m_Res_hasRow [.ref 17, .int i] J G (some (.int (zb (decide (0 ≤ i) && decide (i < J 17 0))))) J G := by
  refine zC_of (by decide) (Nat.le_of_ble_eq_true rfl) ?_
  refine z_iload_n d_Res_hasRow_0 rfl ?_
  refine z_aload_n d_Res_hasRow_1 rfl ?_
  refine z_get d_Res_hasRow_2 f_Res_9 (by decide) rfl rfl ?_
  refine z_callN1 d_Res_hasRow_5 g_Res_28 (c_isIndex X 0 _ _ _ _) rfl ⟨by decide, by decide, by decide, by decide⟩ rfl (Nat.le_of_ble_eq_true rfl) ?_
  exact z_zret d_Res_hasRow_8 rfl (by decide) (by decide) (zb_n _) rfl rfl
set_option maxRecDepth 100000 in
set_option maxHeartbeats 4000000 in
theorem c_Op_kind (X : zX) {o w : Nat} (ho : o < 22) (hw : w < 3) (J : zJT) (G : zGT) : zK X 0 m_Op_kind [.int (nI o), .int (nI w)] J G (some (.int (zKinds.getD (3 * o + w) 0))) J G := by
  refine zC_of (by decide) (Nat.le_of_ble_eq_true rfl) ?_
  refine z_getKinds d_Op_kind_0 (zWA_of (i := 557) (by decide +kernel) (by decide +kernel)) ?_
  refine z_iload_n d_Op_kind_3 rfl ?_
  refine z_iconst (v := 3) d_Op_kind_4 (by decide) ?_
  refine z_imul d_Op_kind_5 ?_
  refine z_iload_n d_Op_kind_6 rfl ?_
  refine z_iadd d_Op_kind_7 ?_
  refine z_kinds d_Op_kind_8 (t := 3 * o + w) ⟨by rw [show (3 : Int32) = nI 3 from rfl, pk_mul, nI_add, Nat.mul_comm], by omega, by decide⟩ ?_
  exact z_iret d_Op_kind_9 rfl (by decide) (by decide) rfl rfl
set_option maxRecDepth 100000 in
set_option maxHeartbeats 4000000 in
theorem c_Op_kept (X : zX) {o w : Nat} (ho : o < 22) (hw : w < 3) (v : Int32) (J : zJT) (G : zGT) : zK X 1 m_Op_kept [.int (nI o), .int (nI w), .int v] J G (some (.int (if zKinds.getD (3 * o + w) 0 = 0 then 0 else v))) J G := by
  refine zC_of (by decide) (Nat.le_of_ble_eq_true rfl) ?_
  refine z_iload_n d_Op_kept_0 rfl ?_
  refine z_iload_n d_Op_kept_1 rfl ?_
  refine z_callS1 d_Op_kept_2 g_Op_19 (c_Op_kind X ho hw J G) rfl ⟨by decide, by decide, by decide, by decide⟩ rfl (Nat.le_of_ble_eq_true rfl) ?_
  refine z_if_ne d_Op_kept_5 12 (by decide) (fun h5 => ?_) (fun h5 => ?_)
  · refine z_iload_n d_Op_kept_12 rfl ?_
    exact z_iret d_Op_kept_13 rfl (by decide) (by decide) (by simp_all) rfl
  · refine z_iconst (v := 0) d_Op_kept_8 (by decide) ?_
    refine z_goto d_Op_kept_9 13 (by decide) ?_
    exact z_iret d_Op_kept_13 rfl (by decide) (by decide) (by simp_all) rfl
set_option maxRecDepth 100000 in
set_option maxHeartbeats 4000000 in
theorem c_Op_needs (X : zX) {o : Nat} (ho : o < 22) (J : zJT) (G : zGT) : zK X 1 m_Op_needsOpenCursor [.int (nI o)] J G (some (.int (zb (decide (¬ nI o = 1) && decide (zKinds.getD (3 * o) 0 = 1))))) J G := by
  refine zC_of (by decide) (Nat.le_of_ble_eq_true rfl) ?_
  refine z_iload_n d_Op_needsOpenCursor_0 rfl ?_
  refine z_iconst (v := 1) d_Op_needsOpenCursor_1 (by decide) ?_
  refine z_icmp_eq d_Op_needsOpenCursor_2 18 (by decide) (fun h2 => ?_) (fun h2 => ?_)
  · refine z_iconst (v := 0) d_Op_needsOpenCursor_18 (by decide) ?_
    exact z_zret d_Op_needsOpenCursor_19 rfl (by decide) (by decide) (by decide) (by first | rfl | (simp_all [zb]; done) | grind [zb]) rfl
  · refine z_iload_n d_Op_needsOpenCursor_5 rfl ?_
    refine z_iconst (v := 0) d_Op_needsOpenCursor_6 (by decide) ?_
    refine z_callS1 d_Op_needsOpenCursor_7 g_Op_19 (c_Op_kind (w := 0) X ho (by decide) J G) rfl ⟨by decide, by decide, by decide, by decide⟩ rfl (Nat.le_of_ble_eq_true rfl) ?_
    refine z_iconst (v := 1) d_Op_needsOpenCursor_10 (by decide) ?_
    refine z_icmp_ne d_Op_needsOpenCursor_11 18 (by decide) (fun h11 => ?_) (fun h11 => ?_)
    · refine z_iconst (v := 0) d_Op_needsOpenCursor_18 (by decide) ?_
      exact z_zret d_Op_needsOpenCursor_19 rfl (by decide) (by decide) (by decide) (by first | rfl | (simp_all [zb]; done) | grind [zb]) rfl
    · refine z_iconst (v := 1) d_Op_needsOpenCursor_14 (by decide) ?_
      refine z_goto d_Op_needsOpenCursor_15 19 (by decide) ?_
      exact z_zret d_Op_needsOpenCursor_19 rfl (by decide) (by decide) (by decide) (by first | rfl | (simp_all [zb]; done) | grind [zb]) rfl
set_option maxRecDepth 100000 in
set_option maxHeartbeats 4000000 in
theorem c_Sto_hasTable (X : zX) (i : Int32) (J : zJT) (G : zGT) : zK X 1 m_Sto_hasTable [.ref 2, .int i] J G (some (.int (zb (decide (0 ≤ i) && decide (i < J 2 1))))) J G := by
  refine zC_of (by decide) (Nat.le_of_ble_eq_true rfl) ?_
  refine z_iload_n d_Sto_hasTable_0 rfl ?_
  refine z_aload_n d_Sto_hasTable_1 rfl ?_
  refine z_get d_Sto_hasTable_2 f_Sto_17 (by decide) rfl rfl ?_
  refine z_callN1 d_Sto_hasTable_5 g_Sto_45 (c_isIndex X 0 _ _ _ _) rfl ⟨by decide, by decide, by decide, by decide⟩ rfl (Nat.le_of_ble_eq_true rfl) ?_
  exact z_zret d_Sto_hasTable_8 rfl (by decide) (by decide) (zb_n _) rfl rfl
set_option maxRecDepth 100000 in
set_option maxHeartbeats 4000000 in
theorem c_Sto_isFull (X : zX) (J : zJT) (G : zGT) : zK X 0 m_Sto_isFull [.ref 2] J G (some (.int (zb (decide (J 2 5 = 0))))) J G := by
  refine zC_of (by decide) (Nat.le_of_ble_eq_true rfl) ?_
  refine z_aload_n d_Sto_isFull_0 rfl ?_
  refine z_get d_Sto_isFull_1 f_Sto_38 (by decide) rfl rfl ?_
  refine z_if_ne d_Sto_isFull_4 11 (by decide) (fun h4 => ?_) (fun h4 => ?_)
  · refine z_iconst (v := 0) d_Sto_isFull_11 (by decide) ?_
    exact z_zret d_Sto_isFull_12 rfl (by decide) (by decide) (by decide) (by first | rfl | (simp_all [zb]; done) | grind [zb]) rfl
  · refine z_iconst (v := 1) d_Sto_isFull_7 (by decide) ?_
    refine z_goto d_Sto_isFull_8 12 (by decide) ?_
    exact z_zret d_Sto_isFull_12 rfl (by decide) (by decide) (by decide) (by first | rfl | (simp_all [zb]; done) | grind [zb]) rfl
set_option maxRecDepth 100000 in
set_option maxHeartbeats 4000000 in
theorem c_Sto_hasPlace (X : zX) {t : Nat} (ht : t < 3) (J : zJT) (G : zGT) (p : Int32) : zK X 0 m_Sto_hasPlace [.ref 2, .int (nI t), .int p] J G (some (.int (zb (decide (p < J (9 + 2 * t) 1))))) J G := by
  refine zC_of (by decide) (Nat.le_of_ble_eq_true rfl) ?_
  refine z_iload_n d_Sto_hasPlace_0 rfl ?_
  refine z_aload_n d_Sto_hasPlace_1 rfl ?_
  refine z_get d_Sto_hasPlace_2 f_Sto_11 (by omega) rfl rfl ?_
  refine z_iload_n d_Sto_hasPlace_5 rfl ?_
  refine z_aald d_Sto_hasPlace_6 (by omega) rfl rfl (show zin (nI t) t 3 from ⟨rfl, ht, by decide⟩) (zt_at ht) ?_
  refine z_get d_Sto_hasPlace_7 f_Sto_53 (by omega) (zt_c ht _ _) rfl ?_
  refine z_icmp_ge d_Sto_hasPlace_10 17 (by decide) (fun h10 => ?_) (fun h10 => ?_)
  · refine z_iconst (v := 0) d_Sto_hasPlace_17 (by decide) ?_
    exact z_zret d_Sto_hasPlace_18 rfl (by decide) (by decide) (by decide) (by first | rfl | (simp_all [zb]; done) | grind [zb]) rfl
  · refine z_iconst (v := 1) d_Sto_hasPlace_13 (by decide) ?_
    refine z_goto d_Sto_hasPlace_14 18 (by decide) ?_
    exact z_zret d_Sto_hasPlace_18 rfl (by decide) (by decide) (by decide) (by first | rfl | (simp_all [zb]; done) | grind [zb]) rfl
set_option maxRecDepth 100000 in
set_option maxHeartbeats 4000000 in
theorem c_Sto_keyAt (X : zX) {t : Nat} (ht : t < 3) (J : zJT) (G : zGT) {p u : Nat} {i : Int32} (hi : zin i p 90) (hu : J (10 + 2 * t) p = nI u) (hu2 : u < 90) : zK X 0 m_Sto_keyAt [.ref 2, .int (nI t), .int i] J G (some (.long (G 7 u))) J G := by
  refine zC_of (by decide) (Nat.le_of_ble_eq_true rfl) ?_
  refine z_aload_n d_Sto_keyAt_0 rfl ?_
  refine z_get d_Sto_keyAt_1 f_Sto_30 (by omega) rfl rfl ?_
  refine z_aload_n d_Sto_keyAt_4 rfl ?_
  refine z_get d_Sto_keyAt_5 f_Sto_11 (by omega) rfl rfl ?_
  refine z_iload_n d_Sto_keyAt_8 rfl ?_
  refine z_aald d_Sto_keyAt_9 (by omega) rfl rfl (show zin (nI t) t 3 from ⟨rfl, ht, by decide⟩) (zt_at ht) ?_
  refine z_get d_Sto_keyAt_10 f_Sto_56 (by omega) (zt_c ht _ _) rfl ?_
  refine z_iload_n d_Sto_keyAt_13 rfl ?_
  refine z_iald d_Sto_keyAt_14 (by omega) (zt_s ht _ _) hi ?_
  refine z_lald d_Sto_keyAt_15 (by omega) rfl ⟨hu, hu2, by decide⟩ ?_
  exact z_lret d_Sto_keyAt_16 rfl (by decide) (by decide) rfl rfl
end
section
theorem z_heq {X : zX} {R : Room} {M : zM} {Q : zQT} {fr : Bool} {k j : Nat} {h h' : zH} {n pc : Nat} {lv : List (Nat × Value)} {st : List Value} (hh : h = h') (kk : zJ X R M Q fr k j h' n pc lv st) : zJ X R M Q fr k j h n pc lv st := hh ▸ kk
/-- places c + 1 .. n hold what was one place below -/
def zup (f : Nat → Int32) (c n : Nat) : Nat → Int32 := fun j => if c < j ∧ j ≤ n then f (j - 1) else f j
def zins (f : Nat → Int32) (p n : Nat) (v : Int32) : Nat → Int32 := fun j => if j = p then v else if p < j ∧ j ≤ n then f (j - 1) else f j
theorem zup_n (f : Nat → Int32) (n : Nat) : zup f n n = f := by
  funext j; simp only [zup]; rw [if_neg (by omega)]
theorem zup_s (f : Nat → Int32) {c n : Nat} (h : c + 1 ≤ n) : upd (zup f (c + 1) n) (c + 1) (zup f (c + 1) n c) = zup f c n := by
  funext j
  simp only [upd, zup]
  by_cases h1 : j = c + 1
  · subst h1; rw [if_pos rfl, if_neg (by omega), if_pos (by omega)]; rfl
  · rw [if_neg h1]
    by_cases h2 : c < j ∧ j ≤ n
    · rw [if_pos (by omega), if_pos h2]
    · rw [if_neg (by omega), if_neg h2]
theorem hp_t0 {t : Nat} (ht : t < 3) {J : zJT} {G : zGT} {v : Int32} : va_up (hp J G) (9 + 2 * t) (.inr (3, [.int v, .int (J (9 + 2 * t) 1), .ref (10 + 2 * t)])) = hp (va_up J (9 + 2 * t) (va_up (J (9 + 2 * t)) 0 v)) G := hp_J (zt_c ht (va_up (J (9 + 2 * t)) 0 v) _).symm
theorem hp_t1 {t : Nat} (ht : t < 3) {J : zJT} {G : zGT} {v : Int32} : va_up (hp J G) (9 + 2 * t) (.inr (3, [.int (J (9 + 2 * t) 0), .int v, .ref (10 + 2 * t)])) = hp (va_up J (9 + 2 * t) (va_up (J (9 + 2 * t)) 1 v)) G := hp_J (zt_c ht (va_up (J (9 + 2 * t)) 1 v) _).symm
theorem hp_c0 {t : Nat} (ht : t < 3) {J : zJT} {G : zGT} {v : Int32} : va_up (hp J G) (26 + t) (.inr (5, [.int v, .int (J (26 + t) 1), .long (G (26 + t) 2)])) = hp (va_up J (26 + t) (va_up (J (26 + t)) 0 v)) G := hp_J (zc_c ht (va_up (J (26 + t)) 0 v) _).symm
theorem hp_c1 {t : Nat} (ht : t < 3) {J : zJT} {G : zGT} {v : Int32} : va_up (hp J G) (26 + t) (.inr (5, [.int (J (26 + t) 0), .int v, .long (G (26 + t) 2)])) = hp (va_up J (26 + t) (va_up (J (26 + t)) 1 v)) G := hp_J (zc_c ht (va_up (J (26 + t)) 1 v) _).symm
theorem hp_c2 {t : Nat} (ht : t < 3) {J : zJT} {G : zGT} {v : Int64} : va_up (hp J G) (26 + t) (.inr (5, [.int (J (26 + t) 0), .int (J (26 + t) 1), .long v])) = hp J (va_up G (26 + t) (va_up (G (26 + t)) 2 v)) := hp_G (zc_c ht _ (va_up (G (26 + t)) 2 v)).symm
theorem zup_e (f : Nat → Int32) (p n : Nat) (v : Int32) : upd (zup f p n) p v = zins f p n v := rfl
set_option maxRecDepth 100000 in
set_option maxHeartbeats 4000000 in
theorem l_Tab_open (X : zX) {t : Nat} (ht : t < 3) (J : zJT) (G : zGT) {p n : Nat} (hp1 : p ≤ n) (hn : n < 90) (v : Int32) (hsz : J (9 + 2 * t) 1 = nI n) : ∀ m, p + m ≤ n → zJ X (zR 0 0 0) m_Tab_open (zRet X 0 0 false none (hp (va_up (va_up J (10 + 2 * t) (zins (J (10 + 2 * t)) p n v)) (9 + 2 * t) (va_up (J (9 + 2 * t)) 1 (nI n + 1))) G) 60) false 0 0 (hp (va_up J (10 + 2 * t) (zup (J (10 + 2 * t)) (p + m) n)) G) 60 5 [(0, .ref (9 + 2 * t)), (1, .int (nI p)), (2, .int v), (3, .int (nI (p + m)))] [] := by
  intro m
  induction m with
  | zero =>
    intro _
    refine z_iload_n d_Tab_open_5 rfl ?_
    refine z_iload_n d_Tab_open_6 rfl ?_
    refine z_icmp_le d_Tab_open_7 30 (by decide) (fun _ => ?_) (fun h9 => absurd (nI_le (Nat.le_refl p) (by omega)) h9)
    refine z_aload_n d_Tab_open_30 rfl ?_
    refine z_get d_Tab_open_31 f_Tab_18 (by omega) (zt_c ht _ _) rfl ?_
    refine z_iload_n d_Tab_open_34 rfl ?_
    refine z_iload_n d_Tab_open_35 rfl ?_
    refine z_iast d_Tab_open_36 (by omega) (zt_s ht _ _) ⟨rfl, by omega, by decide⟩ (hp_ai (zt_s ht _ _).symm) ?_
    refine z_aload_n d_Tab_open_37 rfl ?_
    refine z_dup d_Tab_open_38 rfl ?_
    refine z_get d_Tab_open_39 f_Tab_15 (by omega) (zt_c ht _ _) rfl ?_
    refine z_iconst (v := 1) d_Tab_open_42 (by decide) ?_
    refine z_iadd d_Tab_open_43 ?_
    refine z_put d_Tab_open_44 f_Tab_15 p_3_1 (by omega) (zt_c ht _ _) (Nat.le_of_ble_eq_true rfl) rfl rfl (hp_t1 ht) ?_
    exact z_vret d_Tab_open_47 rfl (by decide) (by decide) (by simp only [bx_uu, zu_s, zup_e, zu_n (show 9 + 2 * t ≠ 10 + 2 * t by omega), hsz, Nat.add_zero])
  | succ m ih =>
    intro hm
    refine z_iload_n d_Tab_open_5 rfl ?_
    refine z_iload_n d_Tab_open_6 rfl ?_
    refine z_icmp_le d_Tab_open_7 30 (by decide) (fun h9 => absurd h9 (nI_ge (show p < p + m + 1 by omega) (by omega))) (fun _ => ?_)
    refine z_aload_n d_Tab_open_10 rfl ?_
    refine z_get d_Tab_open_11 f_Tab_18 (by omega) (zt_c ht _ _) rfl ?_
    refine z_iload_n d_Tab_open_14 rfl ?_
    refine z_aload_n d_Tab_open_15 rfl ?_
    refine z_get d_Tab_open_16 f_Tab_18 (by omega) (zt_c ht _ _) rfl ?_
    refine z_iload_n d_Tab_open_19 rfl ?_
    refine z_iconst (v := 1) d_Tab_open_20 (by decide) ?_
    refine z_isub d_Tab_open_21 ?_
    refine z_iald d_Tab_open_22 (by omega) (zt_s ht _ _) (show zin _ (p + m) 90 from ⟨nI_pred _, by omega, by decide⟩) ?_
    refine z_iast d_Tab_open_23 (by omega) (zt_s ht _ _) (show zin _ (p + m + 1) 90 from ⟨rfl, by omega, by decide⟩) (hp_ai (zt_s ht _ _).symm) ?_
    refine z_iinc (lv' := [(0, _), (1, _), (2, _), (3, _)]) d_Tab_open_24 (by decide) rfl (show _ + Int32.ofInt (-1) = nI (p + m) from pk_m1 _) rfl ?_
    refine z_goto d_Tab_open_27 5 (by decide) ?_
    refine z_heq (h' := hp (va_up J (10 + 2 * t) (zup (J (10 + 2 * t)) (p + m) n)) G) ?_ (ih (by omega))
    simp only [bx_uu, zu_s]; rw [show p + (m + 1) = p + m + 1 from rfl, zup_s _ (by omega)]
set_option maxRecDepth 100000 in
set_option maxHeartbeats 4000000 in
theorem c_Tab_open (X : zX) {t : Nat} (ht : t < 3) (J : zJT) (G : zGT) {p n : Nat} (hp1 : p ≤ n) (hn : n < 90) (v : Int32) (hsz : J (9 + 2 * t) 1 = nI n) : zK X 0 m_Tab_open [.ref (9 + 2 * t), .int (nI p), .int v] J G none (va_up (va_up J (10 + 2 * t) (zins (J (10 + 2 * t)) p n v)) (9 + 2 * t) (va_up (J (9 + 2 * t)) 1 (nI n + 1))) G := by
  refine zC_of (by decide) (Nat.le_of_ble_eq_true rfl) ?_
  refine z_aload_n d_Tab_open_0 rfl ?_
  refine z_get d_Tab_open_1 f_Tab_15 (by omega) (zt_c ht _ _) rfl ?_
  refine z_istore_n (lv' := [(0, _), (1, _), (2, _), (3, _)]) d_Tab_open_4 (by decide) rfl ?_
  have h9 := l_Tab_open X ht J G hp1 hn v hsz (n - p) (by omega)
  rw [show p + (n - p) = n by omega, zup_n] at h9
  rw [hsz]
  refine z_heq ?_ h9
  congr 1; funext i; by_cases hi : i = 10 + 2 * t
  · subst hi; rw [zu_s]
  · rw [zu_n hi]
/-- the place p is left out of n + 1 -/
def zdn (f : Nat → Int32) (p c : Nat) : Nat → Int32 := fun j => if p ≤ j ∧ j < c then f (j + 1) else f j
theorem zdn_p (f : Nat → Int32) (p : Nat) : zdn f p p = f := by
  funext j; simp only [zdn]; rw [if_neg (by omega)]
theorem zdn_s (f : Nat → Int32) {p c : Nat} (h : p ≤ c) : upd (zdn f p c) c (zdn f p c (c + 1)) = zdn f p (c + 1) := by
  funext j
  simp only [upd, zdn]
  by_cases h1 : j = c
  · subst h1; rw [if_pos rfl, if_neg (by omega), if_pos (by omega)]
  · rw [if_neg h1]
    by_cases h2 : p ≤ j ∧ j < c
    · rw [if_pos h2, if_pos (by omega)]
    · rw [if_neg h2, if_neg (by omega)]
set_option maxRecDepth 100000 in
set_option maxHeartbeats 4000000 in
theorem l_Tab_close (X : zX) {t : Nat} (ht : t < 3) (J : zJT) (G : zGT) {p n : Nat} (hp1 : p ≤ n) (hn : n < 90) (hsz : J (9 + 2 * t) 1 = nI (n + 1)) : ∀ m c, n - (p + c) = m → p + c ≤ n → zJ X (zR 0 0 0) m_Tab_close (zRet X 0 0 false none (hp (va_up (va_up J (9 + 2 * t) (va_up (J (9 + 2 * t)) 1 (nI n))) (10 + 2 * t) (zdn (J (10 + 2 * t)) p n)) G) 60) false 0 0 (hp (va_up (va_up J (9 + 2 * t) (va_up (J (9 + 2 * t)) 1 (nI n))) (10 + 2 * t) (zdn (J (10 + 2 * t)) p (p + c))) G) 60 12 [(0, .ref (9 + 2 * t)), (1, .int (nI p)), (2, .int (nI (p + c)))] [] := by
  intro m
  induction m with
  | zero =>
    intro c hm hc
    refine z_iload_n d_Tab_close_12 rfl ?_
    refine z_aload_n d_Tab_close_13 rfl ?_
    refine z_get d_Tab_close_14 f_Tab_15 (by omega) (zt_c ht _ _) rfl ?_
    refine z_icmp_ge d_Tab_close_17 40 (by decide) (fun _ => ?_) (fun h9 => absurd (by rw [zu_n (show 9 + 2 * t ≠ 10 + 2 * t by omega), zu_s, zu_s]; exact nI_le (show n ≤ p + c by omega) (by omega)) h9)
    exact z_vret d_Tab_close_40 rfl (by decide) (by decide) (by rw [show p + c = n by omega])
  | succ m ih =>
    intro c hm hc
    refine z_iload_n d_Tab_close_12 rfl ?_
    refine z_aload_n d_Tab_close_13 rfl ?_
    refine z_get d_Tab_close_14 f_Tab_15 (by omega) (zt_c ht _ _) rfl ?_
    refine z_icmp_ge d_Tab_close_17 40 (by decide) (fun h9 => absurd h9 (by rw [zu_n (show 9 + 2 * t ≠ 10 + 2 * t by omega), zu_s, zu_s]; exact nI_ge (show p + c < n by omega) (by omega))) (fun _ => ?_)
    refine z_aload_n d_Tab_close_20 rfl ?_
    refine z_get d_Tab_close_21 f_Tab_18 (by omega) (zt_c ht _ _) rfl ?_
    refine z_iload_n d_Tab_close_24 rfl ?_
    refine z_aload_n d_Tab_close_25 rfl ?_
    refine z_get d_Tab_close_26 f_Tab_18 (by omega) (zt_c ht _ _) rfl ?_
    refine z_iload_n d_Tab_close_29 rfl ?_
    refine z_iconst (v := 1) d_Tab_close_30 (by decide) ?_
    refine z_iadd d_Tab_close_31 ?_
    refine z_iald d_Tab_close_32 (by omega) (zt_s ht _ _) (show zin _ (p + c + 1) 90 from ⟨(nI_1 _), by omega, by decide⟩) ?_
    refine z_iast d_Tab_close_33 (by omega) (zt_s ht _ _) (show zin _ (p + c) 90 from ⟨rfl, by omega, by decide⟩) (hp_ai (zt_s ht _ _).symm) ?_
    refine z_iinc (lv' := [(0, _), (1, _), (2, _)]) d_Tab_close_34 (by decide) rfl (show _ + Int32.ofInt 1 = nI (p + (c + 1)) from nI_1 _) rfl ?_
    refine z_goto d_Tab_close_37 12 (by decide) ?_
    refine z_heq (h' := hp (va_up (va_up J (9 + 2 * t) (va_up (J (9 + 2 * t)) 1 (nI n))) (10 + 2 * t) (zdn (J (10 + 2 * t)) p (p + (c + 1)))) G) ?_ (ih (c + 1) (by omega) (by omega))
    simp only [bx_uu, zu_s]; rw [zdn_s _ (by omega)]; rfl
set_option maxRecDepth 100000 in
set_option maxHeartbeats 4000000 in
theorem c_Tab_close (X : zX) {t : Nat} (ht : t < 3) (J : zJT) (G : zGT) {p n : Nat} (hp1 : p ≤ n) (hn : n < 90) (hsz : J (9 + 2 * t) 1 = nI (n + 1)) : zK X 0 m_Tab_close [.ref (9 + 2 * t), .int (nI p)] J G none (va_up (va_up J (9 + 2 * t) (va_up (J (9 + 2 * t)) 1 (nI n))) (10 + 2 * t) (zdn (J (10 + 2 * t)) p n)) G := by
  refine zC_of (by decide) (Nat.le_of_ble_eq_true rfl) ?_
  refine z_aload_n d_Tab_close_0 rfl ?_
  refine z_dup d_Tab_close_1 rfl ?_
  refine z_get d_Tab_close_2 f_Tab_15 (by omega) (zt_c ht _ _) rfl ?_
  refine z_iconst (v := 1) d_Tab_close_5 (by decide) ?_
  refine z_isub d_Tab_close_6 ?_
  refine z_put d_Tab_close_7 f_Tab_15 p_3_1 (by omega) (zt_c ht _ _) (Nat.le_of_ble_eq_true rfl) rfl rfl (hp_t1 ht) ?_
  refine z_iload_n d_Tab_close_10 rfl ?_
  refine z_istore_n (lv' := [(0, _), (1, _), (2, _)]) d_Tab_close_11 (by decide) rfl ?_
  have h9 := l_Tab_close X ht J G hp1 hn hsz (n - p) 0 (by omega) (by omega)
  rw [Nat.add_zero, zdn_p] at h9
  rw [hsz, nI_pred]
  refine z_heq ?_ h9
  congr 1; funext i; by_cases hi : i = 10 + 2 * t
  · subst hi; rw [zu_s, zu_n (by omega)]
  · rw [zu_n hi]
end
section
/-- the slot at a place of a table; the key there; whether a search passes it -/
def zsl (J : zJT) (t p : Nat) : Nat := (J (10 + 2 * t) p).toNatClampNeg
def zky (J : zJT) (G : zGT) (t p : Nat) : Int64 := G 7 (zsl J t p)
def zbl (k key : Int64) (o : Bool) : Prop := k < key ∨ (o = true ∧ k = key)
/-- table t has n rows, its slots are slots -/
def zTn (J : zJT) (t n : Nat) : Prop := t < 3 ∧ n ≤ 90 ∧ J (9 + 2 * t) 1 = nI n ∧ ∀ p, p < n → zin (J (10 + 2 * t) p) (zsl J t p) 90
def zstep (m : Nat) : Nat := if m = 0 then 0 else 2 ^ (m - 1)
theorem zstep_d {m : Nat} (h : m ≤ 6) : nI (2 ^ m) / 2 = nI (zstep m) := by
  rcases (show m = 0 ∨ m = 1 ∨ m = 2 ∨ m = 3 ∨ m = 4 ∨ m = 5 ∨ m = 6 by omega) with rfl | rfl | rfl | rfl | rfl | rfl | rfl <;> decide
theorem z_p2 {m : Nat} (h : m ≤ 6) : 2 ^ m ≤ 64 ∧ 1 ≤ 2 ^ m := ⟨Nat.le_trans (Nat.pow_le_pow_right (by decide) h) (by decide), Nat.one_le_two_pow⟩
set_option maxRecDepth 100000 in
set_option maxHeartbeats 4000000 in
theorem l_Sto_rows (X : zX) {t : Nat} (J : zJT) (G : zGT) {n r : Nat} (hT : zTn J t n) (key : Int64) (o : Bool) (hr : r ≤ n) (hb : ∀ p, p < n → (zbl (zky J G t p) key o ↔ p < r)) : ∀ m, m ≤ 7 → ∀ b, b ≤ r → r < b + 2 ^ m → zJ X (zR 0 0 0) m_Sto_rowsBelow (zRet X 0 0 false (some (.int (nI r))) (hp J G) 60) false 0 0 (hp J G) 60 15 [(0, .ref 2), (1, .int (nI t)), (2, .long key), (4, .int (zb o)), (5, .ref (9 + 2 * t)), (6, .int (nI b)), (7, .int (nI (zstep m)))] [] := by
  have ht := hT.1
  have hn := hT.2.1
  intro m
  induction m with
  | zero =>
    intro _ b hi1 hi2
    rw [Nat.pow_zero] at hi2
    rw [show zstep 0 = 0 from rfl]
    refine z_iload d_Sto_rowsBelow_15 rfl ?_
    refine z_if_le d_Sto_rowsBelow_17 89 (by decide) (fun _ => ?_) (fun h9 => absurd (by decide) h9)
    refine z_iload d_Sto_rowsBelow_89 rfl ?_
    exact z_iret d_Sto_rowsBelow_91 rfl (by decide) (by decide) (by rw [show b = r by omega]) rfl
  | succ m ih =>
    intro hm b hi1 hi2
    obtain ⟨hp2, hp1⟩ := z_p2 (show m ≤ 6 by omega)
    rw [show zstep (m + 1) = 2 ^ m from rfl]
    have ih := ih (by omega)
    have hlast : nI b + nI (2 ^ m) - 1 = nI (b + 2 ^ m - 1) := by rw [nI_add, show (1 : Int32) = nI 1 from rfl, pk_sub (by omega)]
    have hge : J (9 + 2 * t) 1 ≤ nI b + nI (2 ^ m) - 1 ↔ n ≤ b + 2 ^ m - 1 := by rw [hT.2.2.1, hlast]; exact nI_leI (by omega) (by omega)
    have hlt : ¬ J (9 + 2 * t) 1 ≤ nI b + nI (2 ^ m) - 1 → b + 2 ^ m - 1 < n := fun h9 => Nat.lt_of_not_le (fun h8 => h9 (hge.mpr h8))
    have hskip : ¬ b + 2 ^ m - 1 < r → zJ X (zR 0 0 0) m_Sto_rowsBelow (zRet X 0 0 false (some (.int (nI r))) (hp J G) 60) false 0 0 (hp J G) 60 80 [(0, .ref 2), (1, .int (nI t)), (2, .long key), (4, .int (zb o)), (5, .ref (9 + 2 * t)), (6, .int (nI b)), (7, .int (nI (2 ^ m)))] [] := by
      intro hs
      refine z_iload d_Sto_rowsBelow_80 rfl ?_
      refine z_iconst (v := 2) d_Sto_rowsBelow_82 (by decide) ?_
      refine z_idiv d_Sto_rowsBelow_83 (by decide) ?_
      refine z_istore (lv' := [(0, _), (1, _), (2, _), (4, _), (5, _), (6, _), (7, _)]) d_Sto_rowsBelow_84 (by decide) rfl ?_
      refine z_goto d_Sto_rowsBelow_86 15 (by decide) ?_
      rw [zstep_d (show m ≤ 6 by omega)]
      exact z_loc (lv' := [(0, .ref 2), (1, .int (nI t)), (2, .long key), (4, .int (zb o)), (5, .ref (9 + 2 * t)), (6, .int (nI b)), (7, .int (nI (zstep m)))]) (by simp) (ih b (by omega) (by omega))
    have hadd : b + 2 ^ m - 1 < r → zJ X (zR 0 0 0) m_Sto_rowsBelow (zRet X 0 0 false (some (.int (nI r))) (hp J G) 60) false 0 0 (hp J G) 60 73 [(0, .ref 2), (1, .int (nI t)), (2, .long key), (4, .int (zb o)), (5, .ref (9 + 2 * t)), (6, .int (nI b)), (7, .int (nI (2 ^ m)))] [] := by
      intro hs
      refine z_iload d_Sto_rowsBelow_73 rfl ?_
      refine z_iload d_Sto_rowsBelow_75 rfl ?_
      refine z_iadd d_Sto_rowsBelow_77 ?_
      refine z_istore (lv' := [(0, _), (1, _), (2, _), (4, _), (5, _), (7, _), (6, _)]) d_Sto_rowsBelow_78 (by decide) rfl ?_
      refine z_iload d_Sto_rowsBelow_80 rfl ?_
      refine z_iconst (v := 2) d_Sto_rowsBelow_82 (by decide) ?_
      refine z_idiv d_Sto_rowsBelow_83 (by decide) ?_
      refine z_istore (lv' := [(0, _), (1, _), (2, _), (4, _), (5, _), (6, _), (7, _)]) d_Sto_rowsBelow_84 (by decide) rfl ?_
      refine z_goto d_Sto_rowsBelow_86 15 (by decide) ?_
      rw [nI_add]
      rw [zstep_d (show m ≤ 6 by omega)]
      exact z_loc (lv' := [(0, .ref 2), (1, .int (nI t)), (2, .long key), (4, .int (zb o)), (5, .ref (9 + 2 * t)), (6, .int (nI (b + 2 ^ m))), (7, .int (nI (zstep m)))]) (by simp) (ih (b + 2 ^ m) (by omega) (by rw [Nat.pow_succ] at hi2; omega))
    refine z_iload d_Sto_rowsBelow_15 rfl ?_
    refine z_if_le d_Sto_rowsBelow_17 89 (by decide) (fun h9 => absurd h9 (nI_nle (show 0 < 2 ^ m by omega) (by omega))) (fun _ => ?_)
    refine z_iload d_Sto_rowsBelow_20 rfl ?_
    refine z_iload d_Sto_rowsBelow_22 rfl ?_
    refine z_iadd d_Sto_rowsBelow_24 ?_
    refine z_iconst (v := 1) d_Sto_rowsBelow_25 (by decide) ?_
    refine z_isub d_Sto_rowsBelow_26 ?_
    refine z_istore (lv' := [(0, _), (1, _), (2, _), (4, _), (5, _), (6, _), (7, _), (8, _)]) d_Sto_rowsBelow_27 (by decide) rfl ?_
    refine z_iload d_Sto_rowsBelow_29 rfl ?_
    refine z_aload d_Sto_rowsBelow_31 rfl ?_
    refine z_get d_Sto_rowsBelow_33 f_Sto_53 (by omega) (zt_c ht _ _) rfl ?_
    refine z_icmp_ge d_Sto_rowsBelow_36 80 (by decide) (fun h36 => ?_) (fun h36 => ?_)
    · refine z_loc (lv' := [(0, .ref 2), (1, .int (nI t)), (2, .long key), (4, .int (zb o)), (5, .ref (9 + 2 * t)), (6, .int (nI b)), (7, .int (nI (2 ^ m)))]) (by simp) (hskip (by have := hge.mp h36; omega))
    · refine z_aload_n d_Sto_rowsBelow_39 rfl ?_
      refine z_get d_Sto_rowsBelow_40 f_Sto_30 (by omega) rfl rfl ?_
      refine z_aload d_Sto_rowsBelow_43 rfl ?_
      refine z_get d_Sto_rowsBelow_45 f_Sto_56 (by omega) (zt_c ht _ _) rfl ?_
      refine z_iload d_Sto_rowsBelow_48 rfl ?_
      refine z_iald d_Sto_rowsBelow_50 (by omega) (zt_s ht _ _) (show zin _ (b + 2 ^ m - 1) 90 from ⟨hlast, by have := hlt h36; omega, by decide⟩) ?_
      refine z_lald d_Sto_rowsBelow_51 (by omega) rfl (hT.2.2.2 (b + 2 ^ m - 1) (hlt h36)) ?_
      refine z_lstore (lv' := [(0, _), (1, _), (2, _), (4, _), (5, _), (6, _), (7, _), (8, _), (9, _)]) d_Sto_rowsBelow_52 (by decide) rfl ?_
      refine z_lload d_Sto_rowsBelow_54 rfl ?_
      refine z_lload_n d_Sto_rowsBelow_56 rfl ?_
      refine z_lcmp d_Sto_rowsBelow_57 ?_
      refine z_if_lt d_Sto_rowsBelow_58 73 (by decide) (fun h58 => ?_) (fun h58 => ?_)
      · refine z_loc (lv' := [(0, .ref 2), (1, .int (nI t)), (2, .long key), (4, .int (zb o)), (5, .ref (9 + 2 * t)), (6, .int (nI b)), (7, .int (nI (2 ^ m)))]) (by simp) (hadd ((hb _ (hlt h36)).mp (Or.inl ((lg_cmp_lt _ _).mp h58))))
      · refine z_iload d_Sto_rowsBelow_61 rfl ?_
        refine z_if_eq d_Sto_rowsBelow_63 80 (by decide) (fun h63 => ?_) (fun h63 => ?_)
        · refine z_loc (lv' := [(0, .ref 2), (1, .int (nI t)), (2, .long key), (4, .int (zb o)), (5, .ref (9 + 2 * t)), (6, .int (nI b)), (7, .int (nI (2 ^ m)))]) (by simp) (hskip (fun h7 => ((hb _ (hlt h36)).mpr h7).elim (fun h6 => h58 ((lg_cmp_lt _ _).mpr h6)) (fun h6 => absurd h63 (by rw [h6.1]; decide))))
        · refine z_lload d_Sto_rowsBelow_66 rfl ?_
          refine z_lload_n d_Sto_rowsBelow_68 rfl ?_
          refine z_lcmp d_Sto_rowsBelow_69 ?_
          refine z_if_ne d_Sto_rowsBelow_70 80 (by decide) (fun h70 => ?_) (fun h70 => ?_)
          · refine z_loc (lv' := [(0, .ref 2), (1, .int (nI t)), (2, .long key), (4, .int (zb o)), (5, .ref (9 + 2 * t)), (6, .int (nI b)), (7, .int (nI (2 ^ m)))]) (by simp) (hskip (fun h7 => ((hb _ (hlt h36)).mpr h7).elim (fun h6 => h58 ((lg_cmp_lt _ _).mpr h6)) (fun h6 => h70 ((lg_cmp_eq _ _).mpr h6.2))))
          · refine z_loc (lv' := [(0, .ref 2), (1, .int (nI t)), (2, .long key), (4, .int (zb o)), (5, .ref (9 + 2 * t)), (6, .int (nI b)), (7, .int (nI (2 ^ m)))]) (by simp) (hadd ((hb _ (hlt h36)).mp (Or.inr ⟨by cases o; exact absurd rfl h63; rfl, (lg_cmp_eq _ _).mp h70⟩)))
set_option maxRecDepth 100000 in
set_option maxHeartbeats 4000000 in
theorem c_Sto_rows (X : zX) {t : Nat} (J : zJT) (G : zGT) {n r : Nat} (hT : zTn J t n) (key : Int64) (o : Bool) (hr : r ≤ n) (hb : ∀ p, p < n → (zbl (zky J G t p) key o ↔ p < r)) : zK X 0 m_Sto_rowsBelow [.ref 2, .int (nI t), .long key, .int (zb o)] J G (some (.int (nI r))) J G := by
  have ht := hT.1
  have hn := hT.2.1
  refine zC_of (by decide) (Nat.le_of_ble_eq_true rfl) ?_
  refine z_aload_n d_Sto_rowsBelow_0 rfl ?_
  refine z_get d_Sto_rowsBelow_1 f_Sto_11 (by omega) rfl rfl ?_
  refine z_iload_n d_Sto_rowsBelow_4 rfl ?_
  refine z_aald d_Sto_rowsBelow_5 (by omega) rfl rfl (show zin (nI t) t 3 from ⟨rfl, ht, by decide⟩) (zt_at ht) ?_
  refine z_astore (lv' := [(0, _), (1, _), (2, _), (4, _), (5, _)]) d_Sto_rowsBelow_6 (by decide) rfl ?_
  refine z_iconst (v := 0) d_Sto_rowsBelow_8 (by decide) ?_
  refine z_istore (lv' := [(0, _), (1, _), (2, _), (4, _), (5, _), (6, _)]) d_Sto_rowsBelow_9 (by decide) rfl ?_
  refine z_bipush (v := 64) d_Sto_rowsBelow_11 (by decide) ?_
  refine z_istore (lv' := [(0, _), (1, _), (2, _), (4, _), (5, _), (6, _), (7, _)]) d_Sto_rowsBelow_13 (by decide) rfl ?_
  exact l_Sto_rows X J G hT key o hr hb 7 (by decide) 0 (by omega) (by omega)
set_option maxRecDepth 100000 in
set_option maxHeartbeats 4000000 in
theorem c_Sto_isAt (X : zX) {t : Nat} (J : zJT) (G : zGT) {n p : Nat} (hT : zTn J t n) (hp : p ≤ 90) (key : Int64) : zK X 0 m_Sto_isAt [.ref 2, .int (nI t), .int (nI p), .long key] J G (some (.int (zb (decide (p < n) && decide (zky J G t p = key))))) J G := by
  have ht := hT.1
  have hn := hT.2.1
  have hge : J (9 + 2 * t) 1 ≤ nI p ↔ n ≤ p := by rw [hT.2.2.1]; exact nI_leI (by omega) (by omega)
  have hlt : ¬ J (9 + 2 * t) 1 ≤ nI p → p < n := fun h9 => Nat.lt_of_not_le (fun h8 => h9 (hge.mpr h8))
  refine zC_of (by decide) (Nat.le_of_ble_eq_true rfl) ?_
  refine z_aload_n d_Sto_isAt_0 rfl ?_
  refine z_get d_Sto_isAt_1 f_Sto_11 (by omega) rfl rfl ?_
  refine z_iload_n d_Sto_isAt_4 rfl ?_
  refine z_aald d_Sto_isAt_5 (by omega) rfl rfl (show zin (nI t) t 3 from ⟨rfl, ht, by decide⟩) (zt_at ht) ?_
  refine z_astore (lv' := [(0, _), (1, _), (2, _), (3, _), (5, _)]) d_Sto_isAt_6 (by decide) rfl ?_
  refine z_iload_n d_Sto_isAt_8 rfl ?_
  refine z_aload d_Sto_isAt_9 rfl ?_
  refine z_get d_Sto_isAt_11 f_Sto_53 (by omega) (zt_c ht _ _) rfl ?_
  refine z_icmp_ge d_Sto_isAt_14 38 (by decide) (fun h14 => ?_) (fun h14 => ?_)
  · refine z_iconst (v := 0) d_Sto_isAt_38 (by decide) ?_
    exact z_zret d_Sto_isAt_39 rfl (by decide) (by decide) (by decide) (by rw [decide_eq_false (by have := hge.mp h14; omega)]; rfl) rfl
  · refine z_aload_n d_Sto_isAt_17 rfl ?_
    refine z_get d_Sto_isAt_18 f_Sto_30 (by omega) rfl rfl ?_
    refine z_aload d_Sto_isAt_21 rfl ?_
    refine z_get d_Sto_isAt_23 f_Sto_56 (by omega) (zt_c ht _ _) rfl ?_
    refine z_iload_n d_Sto_isAt_26 rfl ?_
    refine z_iald d_Sto_isAt_27 (by omega) (zt_s ht _ _) (show zin _ p 90 from ⟨rfl, by have := hlt h14; omega, by decide⟩) ?_
    refine z_lald d_Sto_isAt_28 (by omega) rfl (hT.2.2.2 p (hlt h14)) ?_
    refine z_lload_n d_Sto_isAt_29 rfl ?_
    refine z_lcmp d_Sto_isAt_30 ?_
    refine z_if_ne d_Sto_isAt_31 38 (by decide) (fun h31 => ?_) (fun h31 => ?_)
    · refine z_iconst (v := 0) d_Sto_isAt_38 (by decide) ?_
      exact z_zret d_Sto_isAt_39 rfl (by decide) (by decide) (by decide) (by rw [decide_eq_false (show ¬ zky J G t p = key from fun h9 => h31 ((lg_cmp_eq _ _).mpr h9)), Bool.and_false]; rfl) rfl
    · refine z_iconst (v := 1) d_Sto_isAt_34 (by decide) ?_
      refine z_goto d_Sto_isAt_35 39 (by decide) ?_
      exact z_zret d_Sto_isAt_39 rfl (by decide) (by decide) (by decide) (by rw [decide_eq_true (hlt h14), decide_eq_true (show zky J G t p = key from (lg_cmp_eq _ _).mp h31)]; rfl) rfl
end
section
theorem zb0 {b : Bool} (h : zb b = 0) : b = false := by cases b; rfl; exact absurd h (by decide)
theorem zb1' {b : Bool} (h : ¬ zb b = 0) : b = true := by cases b; exact absurd rfl h; rfl
theorem cpy_s {f g : Nat → Int32} {sp dp k : Nat} : upd (va_cpy f g sp dp k) (dp + k) (f (sp + k)) = va_cpy f g sp dp (k + 1) := by
  funext j
  simp only [upd, va_cpy]
  by_cases h1 : j = dp + k
  · subst h1; rw [if_pos rfl, if_pos (by omega), show sp + (dp + k - dp) = sp + k by omega]
  · rw [if_neg h1]
    by_cases h2 : dp ≤ j ∧ j < dp + k
    · rw [if_pos h2, if_pos (by omega)]
    · rw [if_neg h2, if_neg (by omega)]
theorem cpy_sL {f g : Nat → Int64} {sp dp k : Nat} : vp_updL (va_cpy f g sp dp k) (dp + k) (f (sp + k)) = va_cpy f g sp dp (k + 1) := by
  funext j
  simp only [vp_updL, va_cpy]
  by_cases h1 : j = dp + k
  · subst h1; rw [if_pos rfl, if_pos (by omega), show sp + (dp + k - dp) = sp + k by omega]
  · rw [if_neg h1]
    by_cases h2 : dp ≤ j ∧ j < dp + k
    · rw [if_pos h2, if_pos (by omega)]
    · rw [if_neg h2, if_neg (by omega)]
theorem cpy_0 {α : Type} {f g : Nat → α} {sp dp : Nat} : va_cpy f g sp dp 0 = g := by
  funext j; simp only [va_cpy]; rw [if_neg (by omega)]
theorem zu_self {α : Type} (f : Nat → α) (a : Nat) : va_up f a (f a) = f := by
  funext i; by_cases h : i = a
  · subst h; rw [zu_s]
  · rw [zu_n h]
set_option maxRecDepth 100000 in
set_option maxHeartbeats 4000000 in
theorem c_Sto_slotOf (X : zX) {t : Nat} (J : zJT) (G : zGT) {n r : Nat} (hT : zTn J t n) (key : Int64) (hr : r ≤ n) (hb : ∀ p, p < n → (zbl (zky J G t p) key false ↔ p < r)) : zK X 1 m_Sto_slotOf [.ref 2, .int (nI t), .long key] J G (some (.int (if r < n ∧ zky J G t r = key then J (10 + 2 * t) r else -1))) J G := by
  have ht := hT.1
  have hn := hT.2.1
  refine zC_of (by decide) (Nat.le_of_ble_eq_true rfl) ?_
  refine z_aload_n d_Sto_slotOf_0 rfl ?_
  refine z_iload_n d_Sto_slotOf_1 rfl ?_
  refine z_lload_n d_Sto_slotOf_2 rfl ?_
  refine z_iconst (v := 0) d_Sto_slotOf_3 (by decide) ?_
  refine z_callV1 d_Sto_slotOf_4 g_Sto_59 (c_Sto_rows X J G hT key false hr hb) (by omega) rfl rfl rfl ⟨by decide, by decide, by decide, by decide⟩ rfl (Nat.le_of_ble_eq_true rfl) ?_
  refine z_istore (lv' := [(0, _), (1, _), (2, _), (4, _)]) d_Sto_slotOf_7 (by decide) rfl ?_
  refine z_aload_n d_Sto_slotOf_9 rfl ?_
  refine z_iload_n d_Sto_slotOf_10 rfl ?_
  refine z_iload d_Sto_slotOf_11 rfl ?_
  refine z_lload_n d_Sto_slotOf_13 rfl ?_
  refine z_callV1 d_Sto_slotOf_14 g_Sto_63 (c_Sto_isAt X J G hT (show r ≤ 90 by omega) key) (by omega) rfl rfl rfl ⟨by decide, by decide, by decide, by decide⟩ rfl (Nat.le_of_ble_eq_true rfl) ?_
  refine z_if_eq d_Sto_slotOf_17 35 (by decide) (fun h17 => ?_) (fun h17 => ?_)
  · refine z_iconst (v := (-1)) d_Sto_slotOf_35 (by decide) ?_
    exact z_iret d_Sto_slotOf_36 rfl (by decide) (by decide) (by have := zb0 h17; simp at this; rw [if_neg (fun h9 => this h9.1 h9.2)]) rfl
  · refine z_aload_n d_Sto_slotOf_20 rfl ?_
    refine z_get d_Sto_slotOf_21 f_Sto_11 (by omega) rfl rfl ?_
    refine z_iload_n d_Sto_slotOf_24 rfl ?_
    refine z_aald d_Sto_slotOf_25 (by omega) rfl rfl (show zin (nI t) t 3 from ⟨rfl, ht, by decide⟩) (zt_at ht) ?_
    refine z_get d_Sto_slotOf_26 f_Sto_56 (by omega) (zt_c ht _ _) rfl ?_
    refine z_iload d_Sto_slotOf_29 rfl ?_
    refine z_iald d_Sto_slotOf_31 (by omega) (zt_s ht _ _) (show zin (nI r) r 90 from ⟨rfl, by have := zb1' h17; simp at this; omega, by decide⟩) ?_
    refine z_goto d_Sto_slotOf_32 36 (by decide) ?_
    exact z_iret d_Sto_slotOf_36 rfl (by decide) (by decide) (by have := zb1' h17; simp at this; rw [if_pos this]) rfl
set_option maxRecDepth 100000 in
set_option maxHeartbeats 4000000 in
theorem c_Sto_drop0 (X : zX) {t : Nat} (J : zJT) (G : zGT) {n r : Nat} (hT : zTn J t n) (key : Int64) (hr : r ≤ n) (hb : ∀ p, p < n → (zbl (zky J G t p) key false ↔ p < r)) (hno : ¬ (r < n ∧ zky J G t r = key)) : zK X 1 m_Sto_drop [.ref 2, .int (nI t), .long key] J G (some (.int 0)) J G := by
  have ht := hT.1
  have hn := hT.2.1
  refine zC_of (by decide) (Nat.le_of_ble_eq_true rfl) ?_
  refine z_aload_n d_Sto_drop_0 rfl ?_
  refine z_iload_n d_Sto_drop_1 rfl ?_
  refine z_lload_n d_Sto_drop_2 rfl ?_
  refine z_iconst (v := 0) d_Sto_drop_3 (by decide) ?_
  refine z_callV1 d_Sto_drop_4 g_Sto_59 (c_Sto_rows X J G hT key false hr hb) (by omega) rfl rfl rfl ⟨by decide, by decide, by decide, by decide⟩ rfl (Nat.le_of_ble_eq_true rfl) ?_
  refine z_istore (lv' := [(0, _), (1, _), (2, _), (4, _)]) d_Sto_drop_7 (by decide) rfl ?_
  refine z_aload_n d_Sto_drop_9 rfl ?_
  refine z_iload_n d_Sto_drop_10 rfl ?_
  refine z_iload d_Sto_drop_11 rfl ?_
  refine z_lload_n d_Sto_drop_13 rfl ?_
  refine z_callV1 d_Sto_drop_14 g_Sto_63 (c_Sto_isAt X J G hT (show r ≤ 90 by omega) key) (by omega) rfl rfl rfl ⟨by decide, by decide, by decide, by decide⟩ rfl (Nat.le_of_ble_eq_true rfl) ?_
  refine z_if_ne d_Sto_drop_17 22 (by decide) (fun h9 => absurd h9 (fun h9 => hno (by have := zb1' h9; simpa using this))) (fun _ => ?_)
  refine z_iconst (v := 0) d_Sto_drop_20 (by decide) ?_
  exact z_zret d_Sto_drop_21 rfl (by decide) (by decide) (by decide) rfl rfl
def zdrJ (J : zJT) (t r n sp : Nat) : zJT := va_up (va_up (va_up (va_up J 8 (upd (J 8) sp (J (10 + 2 * t) r))) 2 (va_up (J 2) 5 (nI sp + 1))) (9 + 2 * t) (va_up (J (9 + 2 * t)) 1 (nI n))) (10 + 2 * t) (zdn (J (10 + 2 * t)) r n)
set_option maxRecDepth 100000 in
set_option maxHeartbeats 4000000 in
theorem c_Sto_drop1 (X : zX) {t : Nat} (J : zJT) (G : zGT) {n r sp : Nat} (hT : zTn J t (n + 1)) (key : Int64) (hr : r ≤ n + 1) (hb : ∀ p, p < n + 1 → (zbl (zky J G t p) key false ↔ p < r)) (hsp : J 2 5 = nI sp) (hs2 : sp < 90) (hlt : r < n + 1) (hk : zky J G t r = key) : zK X 1 m_Sto_drop [.ref 2, .int (nI t), .long key] J G (some (.int 1)) (zdrJ J t r n sp) G := by
  have ht := hT.1
  have hn := hT.2.1
  refine zC_of (by decide) (Nat.le_of_ble_eq_true rfl) ?_
  refine z_aload_n d_Sto_drop_0 rfl ?_
  refine z_iload_n d_Sto_drop_1 rfl ?_
  refine z_lload_n d_Sto_drop_2 rfl ?_
  refine z_iconst (v := 0) d_Sto_drop_3 (by decide) ?_
  refine z_callV1 d_Sto_drop_4 g_Sto_59 (c_Sto_rows X J G hT key false hr hb) (by omega) rfl rfl rfl ⟨by decide, by decide, by decide, by decide⟩ rfl (Nat.le_of_ble_eq_true rfl) ?_
  refine z_istore (lv' := [(0, _), (1, _), (2, _), (4, _)]) d_Sto_drop_7 (by decide) rfl ?_
  refine z_aload_n d_Sto_drop_9 rfl ?_
  refine z_iload_n d_Sto_drop_10 rfl ?_
  refine z_iload d_Sto_drop_11 rfl ?_
  refine z_lload_n d_Sto_drop_13 rfl ?_
  refine z_callV1 d_Sto_drop_14 g_Sto_63 (c_Sto_isAt X J G hT (show r ≤ 90 by omega) key) (by omega) rfl rfl rfl ⟨by decide, by decide, by decide, by decide⟩ rfl (Nat.le_of_ble_eq_true rfl) ?_
  refine z_if_ne d_Sto_drop_17 22 (by decide) (fun _ => ?_) (fun h9 => absurd h9 (by rw [decide_eq_true hlt, decide_eq_true hk]; decide))
  refine z_aload_n d_Sto_drop_22 rfl ?_
  refine z_get d_Sto_drop_23 f_Sto_34 (by omega) rfl rfl ?_
  refine z_aload_n d_Sto_drop_26 rfl ?_
  refine z_get d_Sto_drop_27 f_Sto_38 (by omega) rfl rfl ?_
  refine z_aload_n d_Sto_drop_30 rfl ?_
  refine z_get d_Sto_drop_31 f_Sto_11 (by omega) rfl rfl ?_
  refine z_iload_n d_Sto_drop_34 rfl ?_
  refine z_aald d_Sto_drop_35 (by omega) rfl rfl (show zin (nI t) t 3 from ⟨rfl, ht, by decide⟩) (zt_at ht) ?_
  refine z_get d_Sto_drop_36 f_Sto_56 (by omega) (zt_c ht _ _) rfl ?_
  refine z_iload d_Sto_drop_39 rfl ?_
  refine z_iald d_Sto_drop_41 (by omega) (zt_s ht _ _) (show zin (nI r) r 90 from ⟨rfl, by omega, by decide⟩) ?_
  refine z_iast d_Sto_drop_42 (by omega) rfl (show zin (J 2 5) sp 90 from ⟨hsp, hs2, by decide⟩) (hp_ai rfl) ?_
  refine z_aload_n d_Sto_drop_43 rfl ?_
  refine z_dup d_Sto_drop_44 rfl ?_
  refine z_get d_Sto_drop_45 f_Sto_38 (by omega) rfl rfl ?_
  refine z_iconst (v := 1) d_Sto_drop_48 (by decide) ?_
  refine z_iadd d_Sto_drop_49 ?_
  refine z_put d_Sto_drop_50 f_Sto_38 p_2_5 (by omega) rfl (Nat.le_of_ble_eq_true rfl) rfl rfl (hp_pi 5 rfl) ?_
  refine z_aload_n d_Sto_drop_53 rfl ?_
  refine z_get d_Sto_drop_54 f_Sto_11 (by omega) rfl rfl ?_
  refine z_iload_n d_Sto_drop_57 rfl ?_
  refine z_aald d_Sto_drop_58 (by omega) rfl rfl (show zin (nI t) t 3 from ⟨rfl, ht, by decide⟩) (zt_at ht) ?_
  refine z_iload d_Sto_drop_59 rfl ?_
  refine z_heq (h' := hp (va_up (va_up J 8 (upd (J 8) sp (J (10 + 2 * t) r))) 2 (va_up (J 2) 5 (nI sp + 1))) G) (by simp only [zu_n (show (2 : Nat) ≠ 8 by decide), hsp]) ?_
  refine z_callV0 d_Sto_drop_61 g_Sto_79 (c_Tab_close X ht (va_up (va_up J 8 (upd (J 8) sp (J (10 + 2 * t) r))) 2 (va_up (J 2) 5 (nI sp + 1))) G (p := r) (n := n) (by omega) (by omega) (by rw [zu_n (by omega), zu_n (by omega)]; exact hT.2.2.1)) (by omega) (zt_c ht _ _) rfl rfl ⟨by decide, by decide, by decide, by decide⟩ rfl (Nat.le_of_ble_eq_true rfl) ?_
  refine z_iconst (v := 1) d_Sto_drop_64 (by decide) ?_
  exact z_zret d_Sto_drop_65 rfl (by decide) (by decide) (by decide) rfl (by simp only [zdrJ, zu_n (show 9 + 2 * t ≠ 2 by omega), zu_n (show 9 + 2 * t ≠ 8 by omega), zu_n (show 10 + 2 * t ≠ 2 by omega), zu_n (show 10 + 2 * t ≠ 8 by omega)])
set_option maxRecDepth 100000 in
set_option maxHeartbeats 4000000 in
theorem c_Sto_bring0 (X : zX) {t : Nat} (J : zJT) (G : zGT) {n r : Nat} (hT : zTn J t n) (key : Int64) (hr : r ≤ n) (hb : ∀ p, p < n → (zbl (zky J G t p) key false ↔ p < r)) (b : Nat) (i : Int32) (hno : J 2 5 = 0 ∨ (r < n ∧ zky J G t r = key)) : zK X 1 m_Sto_bring [.ref 2, .int (nI t), .long key, .ref b, .int i] J G (some (.int 0)) J G := by
  have ht := hT.1
  have hn := hT.2.1
  refine zC_of (by decide) (Nat.le_of_ble_eq_true rfl) ?_
  refine z_aload_n d_Sto_bring_0 rfl ?_
  refine z_iload_n d_Sto_bring_1 rfl ?_
  refine z_lload_n d_Sto_bring_2 rfl ?_
  refine z_iconst (v := 0) d_Sto_bring_3 (by decide) ?_
  refine z_callV1 d_Sto_bring_4 g_Sto_59 (c_Sto_rows X J G hT key false hr hb) (by omega) rfl rfl rfl ⟨by decide, by decide, by decide, by decide⟩ rfl (Nat.le_of_ble_eq_true rfl) ?_
  refine z_istore (lv' := [(0, _), (1, _), (2, _), (4, _), (5, _), (6, _)]) d_Sto_bring_7 (by decide) rfl ?_
  refine z_aload_n d_Sto_bring_9 rfl ?_
  refine z_callV1 d_Sto_bring_10 g_Sto_67 (c_Sto_isFull X J G) (by omega) rfl rfl rfl ⟨by decide, by decide, by decide, by decide⟩ rfl (Nat.le_of_ble_eq_true rfl) ?_
  refine z_if_ne d_Sto_bring_13 27 (by decide) (fun h13 => ?_) (fun h13 => ?_)
  · refine z_iconst (v := 0) d_Sto_bring_27 (by decide) ?_
    exact z_zret d_Sto_bring_28 rfl (by decide) (by decide) (by decide) rfl rfl
  · refine z_aload_n d_Sto_bring_16 rfl ?_
    refine z_iload_n d_Sto_bring_17 rfl ?_
    refine z_iload d_Sto_bring_18 rfl ?_
    refine z_lload_n d_Sto_bring_20 rfl ?_
    refine z_callV1 d_Sto_bring_21 g_Sto_63 (c_Sto_isAt X J G hT (show r ≤ 90 by omega) key) (by omega) rfl rfl rfl ⟨by decide, by decide, by decide, by decide⟩ rfl (Nat.le_of_ble_eq_true rfl) ?_
    refine z_if_eq d_Sto_bring_24 29 (by decide) (fun h9 => absurd h9 (fun h9 => hno.elim (fun h => by rw [decide_eq_true h] at h13; exact absurd h13 (by decide)) (fun h => by rw [decide_eq_true h.1, decide_eq_true h.2] at h9; exact absurd h9 (by decide)))) (fun _ => ?_)
    refine z_iconst (v := 0) d_Sto_bring_27 (by decide) ?_
    exact z_zret d_Sto_bring_28 rfl (by decide) (by decide) (by decide) rfl rfl
/-- the heap as a row is brought: one slot u fewer to spare, its key, k of its values -/
def zbrJ (J : zJT) (b f u k sp : Nat) : zJT := va_up (va_up J 2 (va_up (J 2) 5 (nI sp))) 6 (va_cpy (J (b + 2)) (J 6) f (4 * u) k)
def zbrG (G : zGT) (b f u k : Nat) (key : Int64) : zGT := va_up (va_up G 7 (vp_updL (G 7) u key)) 5 (va_cpy (G (b + 1)) (G 5) f (4 * u) k)
def zbrT (J : zJT) (t b f u k sp r n : Nat) : zJT := va_up (va_up (zbrJ J b f u k sp) (10 + 2 * t) (zins (J (10 + 2 * t)) r n (nI u))) (9 + 2 * t) (va_up (J (9 + 2 * t)) 1 (nI n + 1))
theorem zbrJ_s {J : zJT} {b f u k sp : Nat} (hb : b + 2 ≠ 2) (hb6 : b + 2 ≠ 6) : va_up (zbrJ J b f u k sp) 6 (upd (zbrJ J b f u k sp 6) (4 * u + k) (zbrJ J b f u k sp (b + 2) (f + k))) = zbrJ J b f u (k + 1) sp := by
  simp only [zbrJ, bx_uu, zu_s, zu_n hb6, zu_n hb, cpy_s]
theorem zbrG_s {G : zGT} {b f u k : Nat} {key : Int64} (hb : b + 1 ≠ 7) (hb6 : b + 1 ≠ 5) : va_up (zbrG G b f u k key) 5 (vp_updL (zbrG G b f u k key 5) (4 * u + k) (zbrG G b f u k key (b + 1) (f + k))) = zbrG G b f u (k + 1) key := by
  simp only [zbrG, bx_uu, zu_s, zu_n hb6, zu_n hb, cpy_sL]
set_option maxRecDepth 100000 in
set_option maxHeartbeats 4000000 in
theorem l_Sto_bring (X : zX) {t : Nat} (J : zJT) (G : zGT) {n r sp u cl b len f : Nat} (hT : zTn J t n) (key : Int64) (hr : r ≤ n) (hv : zVal b len) (hb4 : 14 < b) (hcl : J (9 + 2 * t) 0 = nI cl) (hc4 : cl ≤ 4) (hlen : f + cl ≤ len) (hl3 : len < 2 ^ 31) (hu : u < 90) (hn9 : n < 90) (hbool : ∀ i, i < len → vp_nar .boolean (J (b + 2) i) = J (b + 2) i) : ∀ m k, cl - k = m → k ≤ cl → zJ X (zR 1 0 0) m_Sto_bring (zRet X 0 0 false (some (.int 1)) (hp (zbrT J t b f u cl sp r n) (zbrG G b f u cl key)) 60) false 0 0 (hp (zbrJ J b f u k sp) (zbrG G b f u k key)) 60 61 [(0, .ref 2), (1, .int (nI t)), (2, .long key), (4, .ref b), (5, .int (nI f)), (6, .int (nI r)), (7, .int (nI u)), (8, .int (nI k))] [] := by
  have ht := hT.1
  have hn := hT.2.1
  have hb59 := hv.1
  intro m
  induction m with
  | zero =>
    intro k hm hk
    rw [show k = cl by omega]
    refine z_iload d_Sto_bring_61 rfl ?_
    refine z_aload_n d_Sto_bring_63 rfl ?_
    refine z_get d_Sto_bring_64 f_Sto_11 (by omega) rfl rfl ?_
    refine z_iload_n d_Sto_bring_67 rfl ?_
    refine z_aald d_Sto_bring_68 (by omega) rfl rfl (show zin (nI t) t 3 from ⟨rfl, ht, by decide⟩) (zt_at ht) ?_
    refine z_get d_Sto_bring_69 f_Sto_42 (by omega) (zt_c ht _ _) rfl ?_
    refine z_icmp_ge d_Sto_bring_72 102 (by decide) (fun _ => ?_) (fun h9 => absurd (by rw [(show zbrJ J b f u cl sp (9 + 2 * t) 0 = nI cl by rw [zbrJ, zu_n (by omega), zu_n (by omega)]; exact hcl)]; exact nI_le (Nat.le_refl _) (by omega)) h9)
    refine z_aload_n d_Sto_bring_102 rfl ?_
    refine z_get d_Sto_bring_103 f_Sto_11 (by omega) rfl rfl ?_
    refine z_iload_n d_Sto_bring_106 rfl ?_
    refine z_aald d_Sto_bring_107 (by omega) rfl rfl (show zin (nI t) t 3 from ⟨rfl, ht, by decide⟩) (zt_at ht) ?_
    refine z_iload d_Sto_bring_108 rfl ?_
    refine z_iload d_Sto_bring_110 rfl ?_
    refine z_callV0 d_Sto_bring_112 g_Sto_75 (c_Tab_open X ht (zbrJ J b f u cl sp) (zbrG G b f u cl key) hr hn9 (nI u) (by rw [zbrJ, zu_n (by omega), zu_n (by omega)]; exact hT.2.2.1)) (by omega) (zt_c ht _ _) rfl rfl ⟨by decide, by decide, by decide, by decide⟩ rfl (Nat.le_of_ble_eq_true rfl) ?_
    refine z_iconst (v := 1) d_Sto_bring_115 (by decide) ?_
    exact z_zret d_Sto_bring_116 rfl (by decide) (by decide) (by decide) rfl (by simp only [zbrT, zbrJ, zu_n (show 9 + 2 * t ≠ 6 by omega), zu_n (show 9 + 2 * t ≠ 2 by omega), zu_n (show 10 + 2 * t ≠ 6 by omega), zu_n (show 10 + 2 * t ≠ 2 by omega)])
  | succ m ih =>
    intro k hm hk
    refine z_iload d_Sto_bring_61 rfl ?_
    refine z_aload_n d_Sto_bring_63 rfl ?_
    refine z_get d_Sto_bring_64 f_Sto_11 (by omega) rfl rfl ?_
    refine z_iload_n d_Sto_bring_67 rfl ?_
    refine z_aald d_Sto_bring_68 (by omega) rfl rfl (show zin (nI t) t 3 from ⟨rfl, ht, by decide⟩) (zt_at ht) ?_
    refine z_get d_Sto_bring_69 f_Sto_42 (by omega) (zt_c ht _ _) rfl ?_
    refine z_icmp_ge d_Sto_bring_72 102 (by decide) (fun h9 => absurd h9 (by rw [(show zbrJ J b f u k sp (9 + 2 * t) 0 = nI cl by rw [zbrJ, zu_n (by omega), zu_n (by omega)]; exact hcl)]; exact nI_ge (show k < cl by omega) (by omega))) (fun _ => ?_)
    refine z_aload_n d_Sto_bring_75 rfl ?_
    refine z_get d_Sto_bring_76 f_Sto_26 (by omega) rfl rfl ?_
    refine z_iload d_Sto_bring_79 rfl ?_
    refine z_iconst (v := 4) d_Sto_bring_81 (by decide) ?_
    refine z_imul d_Sto_bring_82 ?_
    refine z_iload d_Sto_bring_83 rfl ?_
    refine z_iadd d_Sto_bring_85 ?_
    refine z_aload d_Sto_bring_86 rfl ?_
    refine z_iload d_Sto_bring_88 rfl ?_
    refine z_iload d_Sto_bring_90 rfl ?_
    refine z_iadd d_Sto_bring_92 ?_
    refine z_callV0 d_Sto_bring_93 g_Sto_71 (c_Val_copy X zVal4 (show zin (nI u * 4 + nI k) (4 * u + k) 360 from ⟨by rw [show (4 : Int32) = nI 4 from rfl, pk_mul, nI_add, Nat.mul_comm], by omega, by decide⟩) hv (show zin (nI f + nI k) (f + k) len from ⟨nI_add _ _, by omega, hl3⟩) _ _ (by rw [zbrJ, zu_n (by omega), zu_n (by omega)]; exact hbool _ (by omega))) (by omega) rfl rfl rfl ⟨by decide, by decide, by decide, by decide⟩ rfl (Nat.le_of_ble_eq_true rfl) ?_
    refine z_iinc (lv' := [(0, _), (1, _), (2, _), (4, _), (5, _), (6, _), (7, _), (8, _)]) d_Sto_bring_96 (by decide) rfl (show _ + Int32.ofInt 1 = nI (k + 1) from nI_1 _) rfl ?_
    refine z_goto d_Sto_bring_99 61 (by decide) ?_
    refine z_heq (h' := (hp (zbrJ J b f u (k + 1) sp) (zbrG G b f u (k + 1) key))) ?_ (ih (k + 1) (by omega) (by omega))
    rw [zbrJ_s (by omega) (by omega), zbrG_s (by omega) (by omega)]
set_option maxRecDepth 100000 in
set_option maxHeartbeats 4000000 in
theorem c_Sto_bring1 (X : zX) {t : Nat} (J : zJT) (G : zGT) {n r sp u cl b len f : Nat} (hT : zTn J t n) (key : Int64) (hr : r ≤ n) (hv : zVal b len) (hb4 : 14 < b) (hcl : J (9 + 2 * t) 0 = nI cl) (hc4 : cl ≤ 4) (hlen : f + cl ≤ len) (hl3 : len < 2 ^ 31) (hu : u < 90) (hn9 : n < 90) (hbool : ∀ i, i < len → vp_nar .boolean (J (b + 2) i) = J (b + 2) i) (hb : ∀ p, p < n → (zbl (zky J G t p) key false ↔ p < r)) (hno : ¬ (r < n ∧ zky J G t r = key)) (hsp : J 2 5 = nI (sp + 1)) (hs9 : sp < 90) (hu8 : J 8 sp = nI u) : zK X 1 m_Sto_bring [.ref 2, .int (nI t), .long key, .ref b, .int (nI f)] J G (some (.int 1)) (zbrT J t b f u cl sp r n) (zbrG G b f u cl key) := by
  have ht := hT.1
  have hn := hT.2.1
  have hb59 := hv.1
  refine zC_of (by decide) (Nat.le_of_ble_eq_true rfl) ?_
  refine z_aload_n d_Sto_bring_0 rfl ?_
  refine z_iload_n d_Sto_bring_1 rfl ?_
  refine z_lload_n d_Sto_bring_2 rfl ?_
  refine z_iconst (v := 0) d_Sto_bring_3 (by decide) ?_
  refine z_callV1 d_Sto_bring_4 g_Sto_59 (c_Sto_rows X J G hT key false hr hb) (by omega) rfl rfl rfl ⟨by decide, by decide, by decide, by decide⟩ rfl (Nat.le_of_ble_eq_true rfl) ?_
  refine z_istore (lv' := [(0, _), (1, _), (2, _), (4, _), (5, _), (6, _)]) d_Sto_bring_7 (by decide) rfl ?_
  refine z_aload_n d_Sto_bring_9 rfl ?_
  refine z_callV1 d_Sto_bring_10 g_Sto_67 (c_Sto_isFull X J G) (by omega) rfl rfl rfl ⟨by decide, by decide, by decide, by decide⟩ rfl (Nat.le_of_ble_eq_true rfl) ?_
  refine z_if_ne d_Sto_bring_13 27 (by decide) (fun h9 => absurd h9 (fun h9 => h9 (by rw [hsp, decide_eq_false (nI_ne0 (by omega) (by omega))]; rfl))) (fun _ => ?_)
  refine z_aload_n d_Sto_bring_16 rfl ?_
  refine z_iload_n d_Sto_bring_17 rfl ?_
  refine z_iload d_Sto_bring_18 rfl ?_
  refine z_lload_n d_Sto_bring_20 rfl ?_
  refine z_callV1 d_Sto_bring_21 g_Sto_63 (c_Sto_isAt X J G hT (show r ≤ 90 by omega) key) (by omega) rfl rfl rfl ⟨by decide, by decide, by decide, by decide⟩ rfl (Nat.le_of_ble_eq_true rfl) ?_
  refine z_if_eq d_Sto_bring_24 29 (by decide) (fun _ => ?_) (fun h9 => absurd (by rw [show (decide (r < n) && decide (zky J G t r = key)) = false by simpa using hno]; rfl) h9)
  refine z_aload_n d_Sto_bring_29 rfl ?_
  refine z_dup d_Sto_bring_30 rfl ?_
  refine z_get d_Sto_bring_31 f_Sto_38 (by omega) rfl rfl ?_
  refine z_iconst (v := 1) d_Sto_bring_34 (by decide) ?_
  refine z_isub d_Sto_bring_35 ?_
  refine z_put d_Sto_bring_36 f_Sto_38 p_2_5 (by omega) rfl (Nat.le_of_ble_eq_true rfl) rfl rfl (hp_pi 5 rfl) ?_
  refine z_aload_n d_Sto_bring_39 rfl ?_
  refine z_get d_Sto_bring_40 f_Sto_34 (by omega) rfl rfl ?_
  refine z_aload_n d_Sto_bring_43 rfl ?_
  refine z_get d_Sto_bring_44 f_Sto_38 (by omega) rfl rfl ?_
  refine z_heq (h' := hp (va_up J 2 (va_up (J 2) 5 (nI sp))) G) (by rw [hsp, nI_pred]) ?_
  rw [hsp, nI_pred]
  refine z_iald d_Sto_bring_47 (by omega) rfl (show zin (nI sp) sp 90 from ⟨rfl, by omega, by decide⟩) ?_
  refine z_istore (lv' := [(0, _), (1, _), (2, _), (4, _), (5, _), (6, _), (7, _)]) d_Sto_bring_48 (by decide) rfl ?_
  refine z_aload_n d_Sto_bring_50 rfl ?_
  refine z_get d_Sto_bring_51 f_Sto_30 (by omega) rfl rfl ?_
  refine z_iload d_Sto_bring_54 rfl ?_
  refine z_lload_n d_Sto_bring_56 rfl ?_
  rw [show (va_up J 2 (va_up (J 2) 5 (nI sp))) 8 sp = nI u by rw [zu_n (by decide)]; exact hu8]
  refine z_last d_Sto_bring_57 (by omega) rfl (show zin (nI u) u 90 from ⟨rfl, hu, by decide⟩) (hp_al rfl) ?_
  refine z_iconst (v := 0) d_Sto_bring_58 (by decide) ?_
  refine z_istore (lv' := [(0, _), (1, _), (2, _), (4, _), (5, _), (6, _), (7, _), (8, _)]) d_Sto_bring_59 (by decide) rfl ?_
  refine z_loc (lv' := [(0, .ref 2), (1, .int (nI t)), (2, .long key), (4, .ref b), (5, .int (nI f)), (6, .int (nI r)), (7, .int (nI u)), (8, .int (nI 0))]) (by simp [nI_0]) (z_heq ?_ (l_Sto_bring (sp := sp) X J G hT key hr hv hb4 hcl hc4 hlen hl3 hu hn9 hbool cl 0 (by omega) (by omega)))
  simp only [zbrJ, zbrG, cpy_0]
  rw [← zu_n (show (6 : Nat) ≠ 2 by decide) (f := J) (v := va_up (J 2) 5 (nI sp)), zu_self, ← zu_n (show (5 : Nat) ≠ 7 by decide) (f := G) (v := vp_updL (G 7) u key), zu_self]
end
section
set_option maxRecDepth 100000 in
set_option maxHeartbeats 4000000 in
theorem c_Sto_begin (X : zX) {t : Nat} (ht : t < 3) (J : zJT) (G : zGT) (hJ : J 2 1 = nI t) (v : Int32) : zK X 0 m_Sto_begin [.ref 2, .int v] J G (some (.int (nI t))) (va_up (va_up J (9 + 2 * t) (va_up (J (9 + 2 * t)) 0 v)) 2 (va_up (J 2) 1 (nI t + 1))) G := by
  refine zC_of (by decide) (Nat.le_of_ble_eq_true rfl) ?_
  refine z_aload_n d_Sto_begin_0 rfl ?_
  refine z_get d_Sto_begin_1 f_Sto_17 (by omega) rfl rfl ?_
  rw [hJ]
  refine z_istore_n (lv' := [(0, _), (1, _), (2, _)]) d_Sto_begin_4 (by decide) rfl ?_
  refine z_aload_n d_Sto_begin_5 rfl ?_
  refine z_get d_Sto_begin_6 f_Sto_11 (by omega) rfl rfl ?_
  refine z_iload_n d_Sto_begin_9 rfl ?_
  refine z_aald d_Sto_begin_10 (by omega) rfl rfl (show zin (nI t) t 3 from ⟨rfl, ht, by decide⟩) (zt_at ht) ?_
  refine z_iload_n d_Sto_begin_11 rfl ?_
  refine z_put d_Sto_begin_12 f_Sto_42 p_3_0 (by omega) (zt_c ht _ _) (Nat.le_of_ble_eq_true rfl) rfl rfl (hp_t0 ht) ?_
  refine z_aload_n d_Sto_begin_15 rfl ?_
  refine z_dup d_Sto_begin_16 rfl ?_
  refine z_get d_Sto_begin_17 f_Sto_17 (by omega) rfl rfl ?_
  refine z_iconst (v := 1) d_Sto_begin_20 (by decide) ?_
  refine z_iadd d_Sto_begin_21 ?_
  refine z_put d_Sto_begin_22 f_Sto_17 p_2_1 (by omega) rfl (Nat.le_of_ble_eq_true rfl) rfl rfl (hp_pi 1 rfl) ?_
  refine z_iload_n d_Sto_begin_25 rfl ?_
  exact z_iret d_Sto_begin_26 rfl (by decide) (by decide) rfl (by simp only [zu_n (show (2 : Nat) ≠ 9 + 2 * t by omega), hJ])
set_option maxRecDepth 100000 in
set_option maxHeartbeats 4000000 in
theorem c_Sto_hasColumn0 (X : zX) (i v : Int32) (J : zJT) (G : zGT) (hno : (decide (0 ≤ i) && decide (i < J 2 1)) = false) : zK X 2 m_Sto_hasColumn [.ref 2, .int i, .int v] J G (some (.int 0)) J G := by
  refine zC_of (by decide) (Nat.le_of_ble_eq_true rfl) ?_
  refine z_aload_n d_Sto_hasColumn_0 rfl ?_
  refine z_iload_n d_Sto_hasColumn_1 rfl ?_
  refine z_callV1 d_Sto_hasColumn_2 g_Sto_49 (c_Sto_hasTable X i J G) (by decide) rfl rfl rfl ⟨by decide, by decide, by decide, by decide⟩ rfl (Nat.le_of_ble_eq_true rfl) ?_
  refine z_if_eq d_Sto_hasColumn_5 28 (by decide) (fun _ => ?_) (fun h9 => absurd (by rw [hno]; rfl) h9)
  refine z_iconst (v := 0) d_Sto_hasColumn_28 (by decide) ?_
  exact z_zret d_Sto_hasColumn_29 rfl (by decide) (by decide) (by decide) rfl rfl
set_option maxRecDepth 100000 in
set_option maxHeartbeats 4000000 in
theorem c_Sto_hasColumn (X : zX) {t : Nat} (ht : t < 3) (v : Int32) (J : zJT) (G : zGT) (hyes : (decide (0 ≤ nI t) && decide (nI t < J 2 1)) = true) : zK X 2 m_Sto_hasColumn [.ref 2, .int (nI t), .int v] J G (some (.int (zb (decide (0 ≤ v) && decide (v < J (9 + 2 * t) 0))))) J G := by
  refine zC_of (by decide) (Nat.le_of_ble_eq_true rfl) ?_
  refine z_aload_n d_Sto_hasColumn_0 rfl ?_
  refine z_iload_n d_Sto_hasColumn_1 rfl ?_
  refine z_callV1 d_Sto_hasColumn_2 g_Sto_49 (c_Sto_hasTable X (nI t) J G) (by omega) rfl rfl rfl ⟨by decide, by decide, by decide, by decide⟩ rfl (Nat.le_of_ble_eq_true rfl) ?_
  refine z_if_eq d_Sto_hasColumn_5 28 (by decide) (fun h9 => absurd h9 (by rw [hyes]; decide)) (fun _ => ?_)
  refine z_iload_n d_Sto_hasColumn_8 rfl ?_
  refine z_aload_n d_Sto_hasColumn_9 rfl ?_
  refine z_get d_Sto_hasColumn_10 f_Sto_11 (by omega) rfl rfl ?_
  refine z_iload_n d_Sto_hasColumn_13 rfl ?_
  refine z_aald d_Sto_hasColumn_14 (by omega) rfl rfl (show zin (nI t) t 3 from ⟨rfl, ht, by decide⟩) (zt_at ht) ?_
  refine z_get d_Sto_hasColumn_15 f_Sto_42 (by omega) (zt_c ht _ _) rfl ?_
  refine z_callN1 d_Sto_hasColumn_18 g_Sto_45 (c_isIndex X 0 _ _ _ _) rfl ⟨by decide, by decide, by decide, by decide⟩ rfl (Nat.le_of_ble_eq_true rfl) ?_
  refine z_if_eq d_Sto_hasColumn_21 28 (by decide) (fun h21 => ?_) (fun h21 => ?_)
  · refine z_iconst (v := 0) d_Sto_hasColumn_28 (by decide) ?_
    exact z_zret d_Sto_hasColumn_29 rfl (by decide) (by decide) (by decide) (by rw [zb0 h21]; rfl) rfl
  · refine z_iconst (v := 1) d_Sto_hasColumn_24 (by decide) ?_
    refine z_goto d_Sto_hasColumn_25 29 (by decide) ?_
    exact z_zret d_Sto_hasColumn_29 rfl (by decide) (by decide) (by decide) (by rw [zb1' h21]; rfl) rfl
def zcl (f : Nat → Int32) (k : Nat) : Nat → Int32 := fun j => if j < k then 0 else f j
def zclL (f : Nat → Int64) (k : Nat) : Nat → Int64 := fun j => if j < k then 0 else f j
theorem zcl_s {f : Nat → Int32} {k : Nat} : upd (zcl f k) k 0 = zcl f (k + 1) := by
  funext j; simp only [upd, zcl]
  by_cases h1 : j = k
  · subst h1; rw [if_pos rfl, if_pos (by omega)]
  · rw [if_neg h1]; by_cases h2 : j < k
    · rw [if_pos h2, if_pos (by omega)]
    · rw [if_neg h2, if_neg (by omega)]
theorem zclL_s {f : Nat → Int64} {k : Nat} : vp_updL (zclL f k) k 0 = zclL f (k + 1) := by
  funext j; simp only [vp_updL, zclL]
  by_cases h1 : j = k
  · subst h1; rw [if_pos rfl, if_pos (by omega)]
  · rw [if_neg h1]; by_cases h2 : j < k
    · rw [if_pos h2, if_pos (by omega)]
    · rw [if_neg h2, if_neg (by omega)]
theorem zcl_0 {f : Nat → Int32} : zcl f 0 = f := by funext j; simp [zcl]
theorem zclL_0 {f : Nat → Int64} : zclL f 0 = f := by funext j; simp [zclL]
set_option maxRecDepth 100000 in
set_option maxHeartbeats 4000000 in
theorem l_Val_clearAll (X : zX) (J : zJT) (G : zGT) : ∀ m k, 16 - k = m → k ≤ 16 → zJ X (zR 1 0 0) m_Val_clearAll (zRet X 0 0 false none (hp (va_up J 24 (zcl (J 24) 16)) (va_up G 23 (zclL (G 23) 16))) 60) false 0 0 (hp (va_up J 24 (zcl (J 24) k)) (va_up G 23 (zclL (G 23) k))) 60 2 [(0, .ref 22), (1, .int (nI k))] [] := by
  intro m
  induction m with
  | zero =>
    intro k hm hk
    rw [show k = 16 by omega]
    refine z_iload_n d_Val_clearAll_2 rfl ?_
    refine z_aload_n d_Val_clearAll_3 rfl ?_
    refine z_get d_Val_clearAll_4 f_Val_7 (by decide) rfl rfl ?_
    refine z_alen d_Val_clearAll_7 (by decide) rfl rfl (show Int32.ofNat 16 = nI 16 from rfl) ?_
    refine z_icmp_ge d_Val_clearAll_8 22 (by decide) (fun _ => ?_) (fun h9 => absurd (nI_le (Nat.le_refl _) (by decide)) h9)
    exact z_vret d_Val_clearAll_22 rfl (by decide) (by decide) rfl
  | succ m ih =>
    intro k hm hk
    refine z_iload_n d_Val_clearAll_2 rfl ?_
    refine z_aload_n d_Val_clearAll_3 rfl ?_
    refine z_get d_Val_clearAll_4 f_Val_7 (by decide) rfl rfl ?_
    refine z_alen d_Val_clearAll_7 (by decide) rfl rfl (show Int32.ofNat 16 = nI 16 from rfl) ?_
    refine z_icmp_ge d_Val_clearAll_8 22 (by decide) (fun h9 => absurd h9 (nI_ge (show k < 16 by omega) (by decide))) (fun _ => ?_)
    refine z_aload_n d_Val_clearAll_11 rfl ?_
    refine z_iload_n d_Val_clearAll_12 rfl ?_
    refine z_callV0 d_Val_clearAll_13 g_Val_17 (c_Val_clear X 0 zVal22 (show zin (nI k) k 16 from ⟨rfl, by omega, by decide⟩) _ _) (by decide) rfl rfl rfl ⟨by decide, by decide, by decide, by decide⟩ rfl (Nat.le_of_ble_eq_true rfl) ?_
    refine z_iinc (lv' := [(0, _), (1, _)]) d_Val_clearAll_16 (by decide) rfl (show _ + Int32.ofInt 1 = nI (k + 1) from nI_1 _) rfl ?_
    refine z_goto d_Val_clearAll_19 2 (by decide) ?_
    refine z_heq (h' := (hp (va_up J 24 (zcl (J 24) (k + 1))) (va_up G 23 (zclL (G 23) (k + 1))))) ?_ (ih (k + 1) (by omega) (by omega))
    simp only [bx_uu, zu_s, zcl_s, zclL_s, Nat.reduceAdd]
set_option maxRecDepth 100000 in
set_option maxHeartbeats 4000000 in
theorem c_Val_clearAll (X : zX) (J : zJT) (G : zGT) : zK X 1 m_Val_clearAll [.ref 22] J G none (va_up J 24 (zcl (J 24) 16)) (va_up G 23 (zclL (G 23) 16)) := by
  refine zC_of (by decide) (Nat.le_of_ble_eq_true rfl) ?_
  refine z_iconst (v := 0) d_Val_clearAll_0 (by decide) ?_
  refine z_istore_n (lv' := [(0, _), (1, _)]) d_Val_clearAll_1 (by decide) rfl ?_
  exact z_loc (lv' := [(0, .ref 22), (1, .int (nI 0))]) (by simp [nI_0]) (z_heq (by rw [zcl_0, zclL_0, zu_self, zu_self]) (l_Val_clearAll X J G 16 0 (by omega) (by omega)))
set_option maxRecDepth 100000 in
set_option maxHeartbeats 4000000 in
theorem c_Res_take0 (X : zX) (i j : Int32) (b : Nat) (J : zJT) (G : zGT) (hJ : J 17 0 = 64) : zK X 1 m_Res_take [.ref 17, .ref b, .int i, .int j] J G (some (.int 0)) J G := by
  refine zC_of (by decide) (Nat.le_of_ble_eq_true rfl) ?_
  refine z_aload_n d_Res_take_0 rfl ?_
  refine z_get d_Res_take_1 f_Res_9 (by decide) rfl rfl ?_
  refine z_bipush (v := 64) d_Res_take_4 (by decide) ?_
  refine z_icmp_ne d_Res_take_6 11 (by decide) (fun h9 => absurd h9 (fun h9 => h9 hJ)) (fun _ => ?_)
  refine z_iconst (v := 0) d_Res_take_9 (by decide) ?_
  exact z_zret d_Res_take_10 rfl (by decide) (by decide) (by decide) rfl rfl
def ztkJ (J : zJT) (f s w k : Nat) : zJT := va_up (va_up J 18 (upd (J 18) s (nI w))) 21 (va_cpy (J 24) (J 21) f (4 * s) k)
def ztkG (G : zGT) (f s k : Nat) : zGT := va_up G 20 (va_cpy (G 23) (G 20) f (4 * s) k)
set_option maxRecDepth 100000 in
set_option maxHeartbeats 4000000 in
theorem l_Res_take (X : zX) (J : zJT) (G : zGT) {s f w : Nat} (hs : s < 64) (hw : w ≤ 4) (hf : f + w ≤ 16) (hJ : J 17 0 = nI s) (hbool : ∀ i, i < 16 → vp_nar .boolean (J 24 i) = J 24 i) : ∀ m k, w - k = m → k ≤ w → zJ X (zR 1 0 0) m_Res_take (zRet X 0 0 false (some (.int 1)) (hp (va_up (ztkJ J f s w w) 17 (va_up (J 17) 0 (nI s + 1))) (ztkG G f s w)) 60) false 0 0 (hp (ztkJ J f s w k) (ztkG G f s k)) 60 24 [(0, .ref 17), (1, .ref 22), (2, .int (nI f)), (3, .int (nI w)), (4, .int (nI k))] [] := by
  intro m
  induction m with
  | zero =>
    intro k hm hk
    rw [show k = w by omega]
    refine z_iload d_Res_take_24 rfl ?_
    refine z_iload_n d_Res_take_26 rfl ?_
    refine z_icmp_ge d_Res_take_27 57 (by decide) (fun _ => ?_) (fun h9 => absurd (nI_le (Nat.le_refl _) (by omega)) h9)
    refine z_aload_n d_Res_take_57 rfl ?_
    refine z_dup d_Res_take_58 rfl ?_
    refine z_get d_Res_take_59 f_Res_9 (by decide) rfl rfl ?_
    refine z_iconst (v := 1) d_Res_take_62 (by decide) ?_
    refine z_iadd d_Res_take_63 ?_
    refine z_put d_Res_take_64 f_Res_9 p_7_0 (by decide) rfl (Nat.le_of_ble_eq_true rfl) rfl rfl (hp_pi 0 rfl) ?_
    refine z_iconst (v := 1) d_Res_take_67 (by decide) ?_
    exact z_zret d_Res_take_68 rfl (by decide) (by decide) (by decide) rfl (by simp only [ztkJ, zu_n (show (17 : Nat) ≠ 21 by decide), zu_n (show (17 : Nat) ≠ 18 by decide), hJ])
  | succ m ih =>
    intro k hm hk
    refine z_iload d_Res_take_24 rfl ?_
    refine z_iload_n d_Res_take_26 rfl ?_
    refine z_icmp_ge d_Res_take_27 57 (by decide) (fun h9 => absurd h9 (nI_ge (show k < w by omega) (by omega))) (fun _ => ?_)
    refine z_aload_n d_Res_take_30 rfl ?_
    refine z_get d_Res_take_31 f_Res_24 (by decide) rfl rfl ?_
    refine z_aload_n d_Res_take_34 rfl ?_
    refine z_get d_Res_take_35 f_Res_9 (by decide) rfl rfl ?_
    refine z_iconst (v := 4) d_Res_take_38 (by decide) ?_
    refine z_imul d_Res_take_39 ?_
    refine z_iload d_Res_take_40 rfl ?_
    refine z_iadd d_Res_take_42 ?_
    refine z_aload_n d_Res_take_43 rfl ?_
    refine z_iload_n d_Res_take_44 rfl ?_
    refine z_iload d_Res_take_45 rfl ?_
    refine z_iadd d_Res_take_47 ?_
    refine z_callV0 d_Res_take_48 g_Res_32 (c_Val_copy X zVal19 (show zin (ztkJ J f s w k 17 0 * 4 + nI k) (4 * s + k) 256 from ⟨by rw [ztkJ, zu_n (by decide), zu_n (by decide), hJ, show (4 : Int32) = nI 4 from rfl, pk_mul, nI_add, Nat.mul_comm], by omega, by decide⟩) zVal22 (show zin (nI f + nI k) (f + k) 16 from ⟨nI_add _ _, by omega, by decide⟩) _ _ (by rw [ztkJ, zu_n (by decide), zu_n (by decide)]; exact hbool _ (by omega))) (by decide) rfl rfl rfl ⟨by decide, by decide, by decide, by decide⟩ rfl (Nat.le_of_ble_eq_true rfl) ?_
    refine z_iinc (lv' := [(0, _), (1, _), (2, _), (3, _), (4, _)]) d_Res_take_51 (by decide) rfl (show _ + Int32.ofInt 1 = nI (k + 1) from nI_1 _) rfl ?_
    refine z_goto d_Res_take_54 24 (by decide) ?_
    refine z_heq (h' := (hp (ztkJ J f s w (k + 1)) (ztkG G f s (k + 1)))) ?_ (ih (k + 1) (by omega) (by omega))
    simp only [ztkJ, ztkG, bx_uu, zu_s, zu_n (show (24 : Nat) ≠ 21 by decide), zu_n (show (24 : Nat) ≠ 18 by decide), zu_n (show (23 : Nat) ≠ 20 by decide), Nat.reduceAdd, cpy_s, cpy_sL]
set_option maxRecDepth 100000 in
set_option maxHeartbeats 4000000 in
theorem c_Res_take1 (X : zX) (J : zJT) (G : zGT) {s f w : Nat} (hs : s < 64) (hw : w ≤ 4) (hf : f + w ≤ 16) (hJ : J 17 0 = nI s) (hbool : ∀ i, i < 16 → vp_nar .boolean (J 24 i) = J 24 i) : zK X 1 m_Res_take [.ref 17, .ref 22, .int (nI f), .int (nI w)] J G (some (.int 1)) (va_up (ztkJ J f s w w) 17 (va_up (J 17) 0 (nI s + 1))) (ztkG G f s w) := by
  refine zC_of (by decide) (Nat.le_of_ble_eq_true rfl) ?_
  refine z_aload_n d_Res_take_0 rfl ?_
  refine z_get d_Res_take_1 f_Res_9 (by decide) rfl rfl ?_
  refine z_bipush (v := 64) d_Res_take_4 (by decide) ?_
  refine z_icmp_ne d_Res_take_6 11 (by decide) (fun _ => ?_) (fun h9 => absurd h9 (by rw [hJ]; exact fun h9 => absurd ((nI_eq (by omega) (by decide)).mp (show nI s = nI 64 from h9)) (by omega)))
  refine z_aload_n d_Res_take_11 rfl ?_
  refine z_get d_Res_take_12 f_Res_15 (by decide) rfl rfl ?_
  refine z_aload_n d_Res_take_15 rfl ?_
  refine z_get d_Res_take_16 f_Res_9 (by decide) rfl rfl ?_
  refine z_iload_n d_Res_take_19 rfl ?_
  refine z_iast d_Res_take_20 (by decide) rfl (show zin (J 17 0) s 64 from ⟨hJ, hs, by decide⟩) (hp_ai rfl) ?_
  refine z_iconst (v := 0) d_Res_take_21 (by decide) ?_
  refine z_istore (lv' := [(0, _), (1, _), (2, _), (3, _), (4, _)]) d_Res_take_22 (by decide) rfl ?_
  exact z_loc (lv' := [(0, .ref 17), (1, .ref 22), (2, .int (nI f)), (3, .int (nI w)), (4, .int (nI 0))]) (by simp [nI_0]) (z_heq (by simp only [ztkJ, ztkG, cpy_0]; rw [← zu_n (show (21 : Nat) ≠ 18 by decide) (f := J) (v := upd (J 18) s (nI w)), zu_self, zu_self]) (l_Res_take X J G hs hw hf hJ hbool w 0 (by omega) (by omega)))
/-- what an operand of a kind may be -/
def zix (v : Int32) (n : Int32) : Bool := decide (0 ≤ v) && decide (v < n)
def zTk (k : Nat) (v : Int32) : Bool := match k with
  | 1 => zix v 3
  | 2 => zix v 3
  | 3 => zix v 61
  | 4 => zix v 4
  | 5 => zix v 16
  | 6 => zix v 12
  | 7 => decide (1 ≤ v) && decide (v ≤ 4)
  | _ => true
set_option maxRecDepth 100000 in
set_option maxHeartbeats 4000000 in
theorem c_Kin_takes (X : zX) {k : Nat} (hk : k < 9) (v : Int32) (J : zJT) (G : zGT) : zK X 1 m_Kin_takes [.int (nI k), .int v] J G (some (.int (zb (zTk k v)))) J G := by
  rcases (show k = 0 ∨ k = 1 ∨ k = 2 ∨ k = 3 ∨ k = 4 ∨ k = 5 ∨ k = 6 ∨ k = 7 ∨ k = 8 by omega) with rfl | rfl | rfl | rfl | rfl | rfl | rfl | rfl | rfl
  · refine zC_of (by decide) (Nat.le_of_ble_eq_true rfl) ?_
    refine z_iload_n d_Kin_takes_0 rfl ?_
    refine z_tableOut d_Kin_takes_1 99 (by decide) (by decide) ?_
    refine z_iconst (v := 1) d_Kin_takes_99 (by decide) ?_
    exact z_zret d_Kin_takes_100 rfl (by decide) (by decide) (by decide) rfl rfl
  · refine zC_of (by decide) (Nat.le_of_ble_eq_true rfl) ?_
    refine z_iload_n d_Kin_takes_0 rfl ?_
    refine z_tableIn (off := 43) d_Kin_takes_1 44 (by decide) (by decide) (by decide) (by decide) ?_
    refine z_iload_n d_Kin_takes_44 rfl ?_
    refine z_iconst (v := 3) d_Kin_takes_45 (by decide) ?_
    refine z_callN1 d_Kin_takes_46 g_Kin_9 (c_isIndex X 0 _ _ _ _) rfl ⟨by decide, by decide, by decide, by decide⟩ rfl (Nat.le_of_ble_eq_true rfl) ?_
    exact z_zret d_Kin_takes_49 rfl (by decide) (by decide) (zb_n _) rfl rfl
  · refine zC_of (by decide) (Nat.le_of_ble_eq_true rfl) ?_
    refine z_iload_n d_Kin_takes_0 rfl ?_
    refine z_tableIn (off := 49) d_Kin_takes_1 50 (by decide) (by decide) (by decide) (by decide) ?_
    refine z_iload_n d_Kin_takes_50 rfl ?_
    refine z_iconst (v := 3) d_Kin_takes_51 (by decide) ?_
    refine z_callN1 d_Kin_takes_52 g_Kin_9 (c_isIndex X 0 _ _ _ _) rfl ⟨by decide, by decide, by decide, by decide⟩ rfl (Nat.le_of_ble_eq_true rfl) ?_
    exact z_zret d_Kin_takes_55 rfl (by decide) (by decide) (zb_n _) rfl rfl
  · refine zC_of (by decide) (Nat.le_of_ble_eq_true rfl) ?_
    refine z_iload_n d_Kin_takes_0 rfl ?_
    refine z_tableIn (off := 55) d_Kin_takes_1 56 (by decide) (by decide) (by decide) (by decide) ?_
    refine z_iload_n d_Kin_takes_56 rfl ?_
    refine z_bipush (v := 61) d_Kin_takes_57 (by decide) ?_
    refine z_callN1 d_Kin_takes_59 g_Kin_9 (c_isIndex X 0 _ _ _ _) rfl ⟨by decide, by decide, by decide, by decide⟩ rfl (Nat.le_of_ble_eq_true rfl) ?_
    exact z_zret d_Kin_takes_62 rfl (by decide) (by decide) (zb_n _) rfl rfl
  · refine zC_of (by decide) (Nat.le_of_ble_eq_true rfl) ?_
    refine z_iload_n d_Kin_takes_0 rfl ?_
    refine z_tableIn (off := 62) d_Kin_takes_1 63 (by decide) (by decide) (by decide) (by decide) ?_
    refine z_iload_n d_Kin_takes_63 rfl ?_
    refine z_iconst (v := 4) d_Kin_takes_64 (by decide) ?_
    refine z_callN1 d_Kin_takes_65 g_Kin_9 (c_isIndex X 0 _ _ _ _) rfl ⟨by decide, by decide, by decide, by decide⟩ rfl (Nat.le_of_ble_eq_true rfl) ?_
    exact z_zret d_Kin_takes_68 rfl (by decide) (by decide) (zb_n _) rfl rfl
  · refine zC_of (by decide) (Nat.le_of_ble_eq_true rfl) ?_
    refine z_iload_n d_Kin_takes_0 rfl ?_
    refine z_tableIn (off := 68) d_Kin_takes_1 69 (by decide) (by decide) (by decide) (by decide) ?_
    refine z_iload_n d_Kin_takes_69 rfl ?_
    refine z_bipush (v := 16) d_Kin_takes_70 (by decide) ?_
    refine z_callN1 d_Kin_takes_72 g_Kin_9 (c_isIndex X 0 _ _ _ _) rfl ⟨by decide, by decide, by decide, by decide⟩ rfl (Nat.le_of_ble_eq_true rfl) ?_
    exact z_zret d_Kin_takes_75 rfl (by decide) (by decide) (zb_n _) rfl rfl
  · refine zC_of (by decide) (Nat.le_of_ble_eq_true rfl) ?_
    refine z_iload_n d_Kin_takes_0 rfl ?_
    refine z_tableIn (off := 75) d_Kin_takes_1 76 (by decide) (by decide) (by decide) (by decide) ?_
    refine z_iload_n d_Kin_takes_76 rfl ?_
    refine z_bipush (v := 12) d_Kin_takes_77 (by decide) ?_
    refine z_callN1 d_Kin_takes_79 g_Kin_9 (c_isIndex X 0 _ _ _ _) rfl ⟨by decide, by decide, by decide, by decide⟩ rfl (Nat.le_of_ble_eq_true rfl) ?_
    exact z_zret d_Kin_takes_82 rfl (by decide) (by decide) (zb_n _) rfl rfl
  · refine zC_of (by decide) (Nat.le_of_ble_eq_true rfl) ?_
    refine z_iload_n d_Kin_takes_0 rfl ?_
    refine z_tableIn (off := 82) d_Kin_takes_1 83 (by decide) (by decide) (by decide) (by decide) ?_
    refine z_iload_n d_Kin_takes_83 rfl ?_
    refine z_iconst (v := 1) d_Kin_takes_84 (by decide) ?_
    refine z_icmp_lt d_Kin_takes_85 97 (by decide) (fun h85 => ?_) (fun h85 => ?_)
    · refine z_iconst (v := 0) d_Kin_takes_97 (by decide) ?_
      exact z_zret d_Kin_takes_98 rfl (by decide) (by decide) (by decide) (by simp only [zTk]; first | (simp_all [zb]; done) | grind [zb]) rfl
    · refine z_iload_n d_Kin_takes_88 rfl ?_
      refine z_iconst (v := 4) d_Kin_takes_89 (by decide) ?_
      refine z_icmp_gt d_Kin_takes_90 97 (by decide) (fun h90 => ?_) (fun h90 => ?_)
      · refine z_iconst (v := 0) d_Kin_takes_97 (by decide) ?_
        exact z_zret d_Kin_takes_98 rfl (by decide) (by decide) (by decide) (by simp only [zTk]; first | (simp_all [zb]; done) | grind [zb]) rfl
      · refine z_iconst (v := 1) d_Kin_takes_93 (by decide) ?_
        refine z_goto d_Kin_takes_94 98 (by decide) ?_
        exact z_zret d_Kin_takes_98 rfl (by decide) (by decide) (by decide) (by simp only [zTk]; first | (simp_all [zb]; done) | grind [zb]) rfl
  · refine zC_of (by decide) (Nat.le_of_ble_eq_true rfl) ?_
    refine z_iload_n d_Kin_takes_0 rfl ?_
    refine z_tableOut d_Kin_takes_1 99 (by decide) (by decide) ?_
    refine z_iconst (v := 1) d_Kin_takes_99 (by decide) ?_
    exact z_zret d_Kin_takes_100 rfl (by decide) (by decide) (by decide) rfl rfl
end
section
theorem d_Lng_compare_0 : decode m_Lng_compare.2.1 0 = .ok (.lload_n 0, 1) := by decide +kernel
theorem d_Lng_compare_1 : decode m_Lng_compare.2.1 1 = .ok (.lload_n 2, 1) := by decide +kernel
theorem d_Lng_compare_2 : decode m_Lng_compare.2.1 2 = .ok (.lcmp, 1) := by decide +kernel
theorem d_Lng_compare_3 : decode m_Lng_compare.2.1 3 = .ok (.ifCond .ge 7, 3) := by decide +kernel
theorem d_Lng_compare_6 : decode m_Lng_compare.2.1 6 = .ok (.iconst (-1), 1) := by decide +kernel
theorem d_Lng_compare_7 : decode m_Lng_compare.2.1 7 = .ok (.goto 14, 3) := by decide +kernel
theorem d_Lng_compare_10 : decode m_Lng_compare.2.1 10 = .ok (.lload_n 0, 1) := by decide +kernel
theorem d_Lng_compare_11 : decode m_Lng_compare.2.1 11 = .ok (.lload_n 2, 1) := by decide +kernel
theorem d_Lng_compare_12 : decode m_Lng_compare.2.1 12 = .ok (.lcmp, 1) := by decide +kernel
theorem d_Lng_compare_13 : decode m_Lng_compare.2.1 13 = .ok (.ifCond .ne 7, 3) := by decide +kernel
theorem d_Lng_compare_16 : decode m_Lng_compare.2.1 16 = .ok (.iconst 0, 1) := by decide +kernel
theorem d_Lng_compare_17 : decode m_Lng_compare.2.1 17 = .ok (.goto 4, 3) := by decide +kernel
theorem d_Lng_compare_20 : decode m_Lng_compare.2.1 20 = .ok (.iconst 1, 1) := by decide +kernel
theorem d_Lng_compare_21 : decode m_Lng_compare.2.1 21 = .ok (.ireturn, 1) := by decide +kernel
set_option maxRecDepth 100000 in
set_option maxHeartbeats 4000000 in
theorem c_Lng_compare (X : zX) (x y : Int64) (J : zJT) (G : zGT) : zK X 0 m_Lng_compare [.long x, .long y] J G (some (.int (lg_cmp x y))) J G := by
  refine zC_of (by decide) (Nat.le_of_ble_eq_true rfl) ?_
  refine z_lload_n d_Lng_compare_0 rfl ?_
  refine z_lload_n d_Lng_compare_1 rfl ?_
  refine z_lcmp d_Lng_compare_2 ?_
  refine z_if_ge d_Lng_compare_3 10 (by decide) (fun h3 => ?_) (fun h3 => ?_)
  · refine z_lload_n d_Lng_compare_10 rfl ?_
    refine z_lload_n d_Lng_compare_11 rfl ?_
    refine z_lcmp d_Lng_compare_12 ?_
    refine z_if_ne d_Lng_compare_13 20 (by decide) (fun h13 => ?_) (fun h13 => ?_)
    · refine z_iconst (v := 1) d_Lng_compare_20 (by decide) ?_
      exact z_iret d_Lng_compare_21 rfl (by decide) (by decide) (by have h8 := (lg_cmp_gt x y).mpr; unfold lg_cmp; have h7 := (lg_cmp_ge x y).mp h3; have h6 : ¬ x = y := fun h => h13 ((lg_cmp_eq x y).mpr h); rw [if_pos (show x > y from Int64.lt_of_le_of_ne h7 (fun h => h6 h.symm))]) rfl
    · refine z_iconst (v := 0) d_Lng_compare_16 (by decide) ?_
      refine z_goto d_Lng_compare_17 21 (by decide) ?_
      exact z_iret d_Lng_compare_21 rfl (by decide) (by decide) (by exact h13.symm) rfl
  · refine z_iconst (v := (-1)) d_Lng_compare_6 (by decide) ?_
    refine z_goto d_Lng_compare_7 21 (by decide) ?_
    exact z_iret d_Lng_compare_21 rfl (by decide) (by decide) (by have h7 : ¬ y ≤ x := fun h => h3 ((lg_cmp_ge x y).mpr h); unfold lg_cmp; rw [if_neg (fun h : x > y => h7 (Int64.le_of_lt h)), if_neg (fun h => h7 (by rw [h]; exact Int64.le_refl _))]) rfl
def zkn (i : Nat) : Nat := (zKinds.getD i 0).toNatClampNeg
theorem zkn_ok : ∀ i, i < 66 → zKinds.getD i 0 = nI (zkn i) ∧ zkn i < 9 := by decide
theorem c_Op_kind2 (X : zX) {o w : Nat} (ho : o < 22) (hw : w < 3) (J : zJT) (G : zGT) : zK X 0 m_Op_kind [.int (nI o), .int (nI w)] J G (some (.int (nI (zkn (3 * o + w))))) J G := by
  rw [← (zkn_ok (3 * o + w) (by omega)).1]; exact c_Op_kind X ho hw J G
def zAcc (o : Nat) (p q s : Int32) : Bool := zTk (zkn (3 * o)) p && zTk (zkn (3 * o + 1)) q && zTk (zkn (3 * o + 2)) s && (decide (¬ o = 18) || decide (p + q ≤ 16))
set_option maxRecDepth 100000 in
set_option maxHeartbeats 4000000 in
theorem c_Op_accepts0 (X : zX) (i p q s : Int32) (J : zJT) (G : zGT) (hno : (decide (0 ≤ i) && decide (i < 22)) = false) : zK X 2 m_Op_accepts [.int i, .int p, .int q, .int s] J G (some (.int 0)) J G := by
  refine zC_of (by decide) (Nat.le_of_ble_eq_true rfl) ?_
  refine z_iload_n d_Op_accepts_0 rfl ?_
  refine z_bipush (v := 22) d_Op_accepts_1 (by decide) ?_
  refine z_callN1 d_Op_accepts_3 g_Op_15 (c_isIndex X 0 _ _ _ _) rfl ⟨by decide, by decide, by decide, by decide⟩ rfl (Nat.le_of_ble_eq_true rfl) ?_
  refine z_if_ne d_Op_accepts_6 11 (by decide) (fun h9 => absurd h9 (fun h9 => h9 (by rw [hno]; rfl))) (fun _ => ?_)
  refine z_iconst (v := 0) d_Op_accepts_9 (by decide) ?_
  exact z_zret d_Op_accepts_10 rfl (by decide) (by decide) (by decide) rfl rfl
theorem nI_e18 {o : Nat} (h : o < 22) : (nI o = 18) = (o = 18) := by
  rw [show (18 : Int32) = nI 18 from rfl, nI_eq (by omega) (by decide)]
set_option maxRecDepth 100000 in
set_option maxHeartbeats 4000000 in
theorem c_Op_accepts (X : zX) {o : Nat} (ho : o < 22) (p q s : Int32) (J : zJT) (G : zGT) : zK X 2 m_Op_accepts [.int (nI o), .int p, .int q, .int s] J G (some (.int (zb (zAcc o p q s)))) J G := by
  refine zC_of (by decide) (Nat.le_of_ble_eq_true rfl) ?_
  refine z_iload_n d_Op_accepts_0 rfl ?_
  refine z_bipush (v := 22) d_Op_accepts_1 (by decide) ?_
  refine z_callN1 d_Op_accepts_3 g_Op_15 (c_isIndex X 0 _ _ _ _) rfl ⟨by decide, by decide, by decide, by decide⟩ rfl (Nat.le_of_ble_eq_true rfl) ?_
  refine z_if_ne d_Op_accepts_6 11 (by decide) (fun _ => ?_) (fun h9 => absurd h9 (by rw [decide_eq_true (nI_pos' (by omega)), decide_eq_true (show nI o < 22 from nI_lt (show o < 22 from ho) (by decide))]; decide))
  refine z_iload_n d_Op_accepts_11 rfl ?_
  refine z_iconst (v := 0) d_Op_accepts_12 (by decide) ?_
  refine z_callS1 d_Op_accepts_13 g_Op_19 (c_Op_kind2 (w := 0) X ho (by decide) J G) rfl ⟨by decide, by decide, by decide, by decide⟩ rfl (Nat.le_of_ble_eq_true rfl) ?_
  refine z_iload_n d_Op_accepts_16 rfl ?_
  refine z_callS1 d_Op_accepts_17 g_Op_23 (c_Kin_takes X (zkn_ok (3 * o + 0) (by omega)).2 p J G) rfl ⟨by decide, by decide, by decide, by decide⟩ rfl (Nat.le_of_ble_eq_true rfl) ?_
  refine z_if_eq d_Op_accepts_20 47 (by decide) (fun h20 => ?_) (fun h20 => ?_)
  · refine z_iconst (v := 0) d_Op_accepts_47 (by decide) ?_
    exact z_zret d_Op_accepts_48 rfl (by decide) (by decide) (by decide) (by simp only [zAcc]; simp_all [zb, nI_e18 ho]) rfl
  · refine z_iload_n d_Op_accepts_23 rfl ?_
    refine z_iconst (v := 1) d_Op_accepts_24 (by decide) ?_
    refine z_callS1 d_Op_accepts_25 g_Op_19 (c_Op_kind2 (w := 1) X ho (by decide) J G) rfl ⟨by decide, by decide, by decide, by decide⟩ rfl (Nat.le_of_ble_eq_true rfl) ?_
    refine z_iload_n d_Op_accepts_28 rfl ?_
    refine z_callS1 d_Op_accepts_29 g_Op_23 (c_Kin_takes X (zkn_ok (3 * o + 1) (by omega)).2 q J G) rfl ⟨by decide, by decide, by decide, by decide⟩ rfl (Nat.le_of_ble_eq_true rfl) ?_
    refine z_if_eq d_Op_accepts_32 47 (by decide) (fun h32 => ?_) (fun h32 => ?_)
    · refine z_iconst (v := 0) d_Op_accepts_47 (by decide) ?_
      exact z_zret d_Op_accepts_48 rfl (by decide) (by decide) (by decide) (by simp only [zAcc]; simp_all [zb, nI_e18 ho]) rfl
    · refine z_iload_n d_Op_accepts_35 rfl ?_
      refine z_iconst (v := 2) d_Op_accepts_36 (by decide) ?_
      refine z_callS1 d_Op_accepts_37 g_Op_19 (c_Op_kind2 (w := 2) X ho (by decide) J G) rfl ⟨by decide, by decide, by decide, by decide⟩ rfl (Nat.le_of_ble_eq_true rfl) ?_
      refine z_iload_n d_Op_accepts_40 rfl ?_
      refine z_callS1 d_Op_accepts_41 g_Op_23 (c_Kin_takes X (zkn_ok (3 * o + 2) (by omega)).2 s J G) rfl ⟨by decide, by decide, by decide, by decide⟩ rfl (Nat.le_of_ble_eq_true rfl) ?_
      refine z_if_ne d_Op_accepts_44 49 (by decide) (fun h44 => ?_) (fun h44 => ?_)
      · refine z_iload_n d_Op_accepts_49 rfl ?_
        refine z_bipush (v := 18) d_Op_accepts_50 (by decide) ?_
        refine z_icmp_ne d_Op_accepts_52 63 (by decide) (fun h52 => ?_) (fun h52 => ?_)
        · refine z_iconst (v := 1) d_Op_accepts_63 (by decide) ?_
          refine z_goto d_Op_accepts_64 68 (by decide) ?_
          exact z_zret d_Op_accepts_68 rfl (by decide) (by decide) (by decide) (by simp only [zAcc]; simp_all [zb, nI_e18 ho]) rfl
        · refine z_iload_n d_Op_accepts_55 rfl ?_
          refine z_iload_n d_Op_accepts_56 rfl ?_
          refine z_iadd d_Op_accepts_57 ?_
          refine z_bipush (v := 16) d_Op_accepts_58 (by decide) ?_
          refine z_icmp_gt d_Op_accepts_60 67 (by decide) (fun h60 => ?_) (fun h60 => ?_)
          · refine z_iconst (v := 0) d_Op_accepts_67 (by decide) ?_
            exact z_zret d_Op_accepts_68 rfl (by decide) (by decide) (by decide) (by simp only [zAcc]; simp_all [zb, nI_e18 ho]) rfl
          · refine z_iconst (v := 1) d_Op_accepts_63 (by decide) ?_
            refine z_goto d_Op_accepts_64 68 (by decide) ?_
            exact z_zret d_Op_accepts_68 rfl (by decide) (by decide) (by decide) (by simp only [zAcc]; simp_all [zb, nI_e18 ho]) rfl
      · refine z_iconst (v := 0) d_Op_accepts_47 (by decide) ?_
        exact z_zret d_Op_accepts_48 rfl (by decide) (by decide) (by decide) (by simp only [zAcc]; simp_all [zb, nI_e18 ho]) rfl
set_option maxRecDepth 100000 in
set_option maxHeartbeats 4000000 in
theorem c_Mac_end (X : zX) (v : Int32) (J : zJT) (G : zGT) : zK X 0 m_Mac_end [.ref 1, .int v] J G (some (.int (J 15 0))) (va_up J 1 (va_up (J 1) 5 v)) G := by
  refine zC_of (by decide) (Nat.le_of_ble_eq_true rfl) ?_
  refine z_aload_n d_Mac_end_0 rfl ?_
  refine z_iload_n d_Mac_end_1 rfl ?_
  refine z_put d_Mac_end_2 f_Mac_47 p_1_5 (by decide) rfl (Nat.le_of_ble_eq_true rfl) rfl rfl (hp_pi 5 rfl) ?_
  refine z_aload_n d_Mac_end_5 rfl ?_
  refine z_get d_Mac_end_6 f_Mac_21 (by decide) rfl rfl ?_
  refine z_get d_Mac_end_9 f_Mac_55 (by decide) rfl rfl ?_
  exact z_iret d_Mac_end_12 rfl (by decide) (by decide) (by simp [va_up]) rfl
set_option maxRecDepth 100000 in
set_option maxHeartbeats 4000000 in
theorem c_Mac_moveTo1 (X : zX) {c t n p : Nat} (hc : c < 3) (J : zJT) (G : zGT) (hT : zTn J t n) (ht : J (26 + c) 0 = nI t) (hp : p < n) : zK X 1 m_Mac_moveTo [.ref 1, .ref (26 + c), .int (nI p)] J G (some (.int (zb true))) (va_up J (26 + c) (va_up (J (26 + c)) 1 (zb true))) (va_up G (26 + c) (va_up (G (26 + c)) 2 (zky J G t p))) := by
  have ht3 := hT.1
  have hn9 := hT.2.1
  have h8 : decide (nI p < J (9 + 2 * t) 1) = true := by rw [hT.2.2.1]; exact decide_eq_true (nI_lt hp (by omega))
  refine zC_of (by decide) (Nat.le_of_ble_eq_true rfl) ?_
  refine z_aload_n d_Mac_moveTo_0 rfl ?_
  refine z_aload_n d_Mac_moveTo_1 rfl ?_
  refine z_get d_Mac_moveTo_2 f_Mac_12 (by omega) rfl rfl ?_
  refine z_aload_n d_Mac_moveTo_5 rfl ?_
  refine z_get d_Mac_moveTo_6 f_Mac_140 (by omega) (zc_c hc _ _) rfl ?_
  refine z_iload_n d_Mac_moveTo_9 rfl ?_
  rw [ht]
  refine z_callV1 d_Mac_moveTo_10 g_Mac_143 (c_Sto_hasPlace X hT.1 J G (nI p)) (by omega) rfl rfl rfl ⟨by decide, by decide, by decide, by decide⟩ rfl (Nat.le_of_ble_eq_true rfl) ?_
  rw [h8]
  refine z_put d_Mac_moveTo_13 f_Mac_147 p_5_1 (by omega) (zc_c hc _ _) (Nat.le_of_ble_eq_true rfl) (zb_n true) (zb_f true) (hp_c1 hc) ?_
  refine z_aload_n d_Mac_moveTo_16 rfl ?_
  refine z_get d_Mac_moveTo_17 f_Mac_147 (by omega) (zc_c hc _ _) rfl ?_
  refine z_if_eq d_Mac_moveTo_20 39 (by decide) (fun h9 => absurd h9 (by rw [zu_s, zu_s]; decide)) (fun _ => ?_)
  refine z_aload_n d_Mac_moveTo_23 rfl ?_
  refine z_aload_n d_Mac_moveTo_24 rfl ?_
  refine z_get d_Mac_moveTo_25 f_Mac_12 (by omega) rfl rfl ?_
  refine z_aload_n d_Mac_moveTo_28 rfl ?_
  refine z_get d_Mac_moveTo_29 f_Mac_140 (by omega) (zc_c hc _ _) rfl ?_
  refine z_iload_n d_Mac_moveTo_32 rfl ?_
  rw [show (va_up J (26 + c) (va_up (J (26 + c)) 1 (zb true))) (26 + c) 0 = nI t by rw [zu_s, zu_n (by decide)]; exact ht]
  refine z_callV1 d_Mac_moveTo_33 g_Mac_151 (c_Sto_keyAt X hT.1 _ G (show zin (nI p) p 90 from ⟨rfl, by omega, by decide⟩) (show (va_up J (26 + c) (va_up (J (26 + c)) 1 (zb true))) (10 + 2 * t) p = nI (zsl J t p) by rw [zu_n (by omega)]; exact (hT.2.2.2 p hp).1) (hT.2.2.2 p hp).2.1) (by omega) rfl rfl rfl ⟨by decide, by decide, by decide, by decide⟩ rfl (Nat.le_of_ble_eq_true rfl) ?_
  refine z_put d_Mac_moveTo_36 f_Mac_155 p_5_2 (by omega) (zc_c hc _ _) (Nat.le_of_ble_eq_true rfl) rfl rfl (hp_c2 hc) ?_
  refine z_aload_n d_Mac_moveTo_39 rfl ?_
  refine z_get d_Mac_moveTo_40 f_Mac_147 (by omega) (zc_c hc _ _) rfl ?_
  exact z_zret d_Mac_moveTo_43 rfl (by decide) (by decide) (by rw [zu_s, zu_s]; decide) (by rw [zu_s, zu_s]) rfl
set_option maxRecDepth 100000 in
set_option maxHeartbeats 4000000 in
theorem c_Mac_moveTo0 (X : zX) {c t n p : Nat} (hc : c < 3) (J : zJT) (G : zGT) (hT : zTn J t n) (ht : J (26 + c) 0 = nI t) (hp : n ≤ p ∧ p ≤ 90) : zK X 1 m_Mac_moveTo [.ref 1, .ref (26 + c), .int (nI p)] J G (some (.int (zb false))) (va_up J (26 + c) (va_up (J (26 + c)) 1 (zb false))) G := by
  have ht3 := hT.1
  have hn9 := hT.2.1
  have h8 : decide (nI p < J (9 + 2 * t) 1) = false := by rw [hT.2.2.1]; exact decide_eq_false (nI_nlt hp.1 (by omega))
  refine zC_of (by decide) (Nat.le_of_ble_eq_true rfl) ?_
  refine z_aload_n d_Mac_moveTo_0 rfl ?_
  refine z_aload_n d_Mac_moveTo_1 rfl ?_
  refine z_get d_Mac_moveTo_2 f_Mac_12 (by omega) rfl rfl ?_
  refine z_aload_n d_Mac_moveTo_5 rfl ?_
  refine z_get d_Mac_moveTo_6 f_Mac_140 (by omega) (zc_c hc _ _) rfl ?_
  refine z_iload_n d_Mac_moveTo_9 rfl ?_
  rw [ht]
  refine z_callV1 d_Mac_moveTo_10 g_Mac_143 (c_Sto_hasPlace X hT.1 J G (nI p)) (by omega) rfl rfl rfl ⟨by decide, by decide, by decide, by decide⟩ rfl (Nat.le_of_ble_eq_true rfl) ?_
  rw [h8]
  refine z_put d_Mac_moveTo_13 f_Mac_147 p_5_1 (by omega) (zc_c hc _ _) (Nat.le_of_ble_eq_true rfl) (zb_n false) (zb_f false) (hp_c1 hc) ?_
  refine z_aload_n d_Mac_moveTo_16 rfl ?_
  refine z_get d_Mac_moveTo_17 f_Mac_147 (by omega) (zc_c hc _ _) rfl ?_
  refine z_if_eq d_Mac_moveTo_20 39 (by decide) (fun _ => ?_) (fun h9 => absurd (by rw [zu_s, zu_s]; rfl) h9)
  refine z_aload_n d_Mac_moveTo_39 rfl ?_
  refine z_get d_Mac_moveTo_40 f_Mac_147 (by omega) (zc_c hc _ _) rfl ?_
  exact z_zret d_Mac_moveTo_43 rfl (by decide) (by decide) (by rw [zu_s, zu_s]; decide) (by rw [zu_s, zu_s]) rfl
end
section
theorem nI_m1 {u : Nat} (h : u < 2 ^ 31) : ¬ nI u = -1 := fun h9 => by
  have h8 := nI_toInt h
  rw [h9] at h8
  rw [show (-1 : Int32).toInt = -1 from by decide] at h8
  omega
set_option maxRecDepth 100000 in
set_option maxHeartbeats 4000000 in
theorem c_Mac_advance0 (X : zX) {c : Nat} (hc : c < 3) (J : zJT) (G : zGT) (hk : J (26 + c) 1 = 0) : zK X 2 m_Mac_advance [.ref 1, .ref (26 + c)] J G (some (.int 0)) J G := by
  refine zC_of (by decide) (Nat.le_of_ble_eq_true rfl) ?_
  refine z_aload_n d_Mac_advance_0 rfl ?_
  refine z_get d_Mac_advance_1 f_Mac_147 (by omega) (zc_c hc _ _) rfl ?_
  refine z_if_ne d_Mac_advance_4 9 (by decide) (fun h9 => absurd h9 (fun h9 => h9 hk)) (fun _ => ?_)
  refine z_iconst (v := 0) d_Mac_advance_7 (by decide) ?_
  exact z_zret d_Mac_advance_8 rfl (by decide) (by decide) (by decide) rfl rfl
set_option maxRecDepth 100000 in
set_option maxHeartbeats 4000000 in
theorem c_Mac_advance1 (X : zX) {c t n r : Nat} (hc : c < 3) (J : zJT) (G : zGT) (hT : zTn J t n) (ht : J (26 + c) 0 = nI t) (hk : J (26 + c) 1 = 1) (hr : r ≤ n) (hb : ∀ p, p < n → (zbl (zky J G t p) (G (26 + c) 2) true ↔ p < r)) (hp : r < n) : zK X 2 m_Mac_advance [.ref 1, .ref (26 + c)] J G (some (.int 1)) (va_up J (26 + c) (va_up (J (26 + c)) 1 (zb true))) (va_up G (26 + c) (va_up (G (26 + c)) 2 (zky J G t r))) := by
  have ht3 := hT.1
  have hn9 := hT.2.1
  have h8 : decide (nI r < J (9 + 2 * t) 1) = true := by rw [hT.2.2.1]; exact decide_eq_true (nI_lt hp (by omega))
  refine zC_of (by decide) (Nat.le_of_ble_eq_true rfl) ?_
  refine z_aload_n d_Mac_advance_0 rfl ?_
  refine z_get d_Mac_advance_1 f_Mac_147 (by omega) (zc_c hc _ _) rfl ?_
  refine z_if_ne d_Mac_advance_4 9 (by decide) (fun _ => ?_) (fun h9 => absurd h9 (by rw [hk]; decide))
  refine z_aload_n d_Mac_advance_9 rfl ?_
  refine z_get d_Mac_advance_10 f_Mac_12 (by omega) rfl rfl ?_
  refine z_aload_n d_Mac_advance_13 rfl ?_
  refine z_get d_Mac_advance_14 f_Mac_140 (by omega) (zc_c hc _ _) rfl ?_
  refine z_aload_n d_Mac_advance_17 rfl ?_
  refine z_get d_Mac_advance_18 f_Mac_155 (by omega) (zc_c hc _ _) rfl ?_
  refine z_iconst (v := 1) d_Mac_advance_21 (by decide) ?_
  rw [ht]
  refine z_callV1 d_Mac_advance_22 g_Mac_159 (c_Sto_rows X J G hT (G (26 + c) 2) true hr hb) (by omega) rfl rfl rfl ⟨by decide, by decide, by decide, by decide⟩ rfl (Nat.le_of_ble_eq_true rfl) ?_
  refine z_istore_n (lv' := [(0, _), (1, _), (2, _)]) d_Mac_advance_25 (by decide) rfl ?_
  refine z_aload_n d_Mac_advance_26 rfl ?_
  refine z_get d_Mac_advance_27 f_Mac_12 (by omega) rfl rfl ?_
  refine z_aload_n d_Mac_advance_30 rfl ?_
  refine z_get d_Mac_advance_31 f_Mac_140 (by omega) (zc_c hc _ _) rfl ?_
  refine z_iload_n d_Mac_advance_34 rfl ?_
  rw [ht]
  refine z_callV1 d_Mac_advance_35 g_Mac_143 (c_Sto_hasPlace X ht3 J G (nI r)) (by omega) rfl rfl rfl ⟨by decide, by decide, by decide, by decide⟩ rfl (Nat.le_of_ble_eq_true rfl) ?_
  refine z_if_eq d_Mac_advance_38 54 (by decide) (fun h9 => absurd h9 (by rw [h8]; decide)) (fun _ => ?_)
  refine z_aload_n d_Mac_advance_41 rfl ?_
  refine z_aload_n d_Mac_advance_42 rfl ?_
  refine z_iload_n d_Mac_advance_43 rfl ?_
  refine z_callV1 d_Mac_advance_44 g_Mac_89 (c_Mac_moveTo1 X hc J G hT ht hp) (by omega) rfl rfl rfl ⟨by decide, by decide, by decide, by decide⟩ rfl (Nat.le_of_ble_eq_true rfl) ?_
  refine z_if_eq d_Mac_advance_47 54 (by decide) (fun h9 => absurd h9 (by decide)) (fun _ => ?_)
  refine z_iconst (v := 1) d_Mac_advance_50 (by decide) ?_
  refine z_goto d_Mac_advance_51 55 (by decide) ?_
  exact z_zret d_Mac_advance_55 rfl (by decide) (by decide) (by decide) rfl rfl
set_option maxRecDepth 100000 in
set_option maxHeartbeats 4000000 in
theorem c_Mac_advance2 (X : zX) {c t n r : Nat} (hc : c < 3) (J : zJT) (G : zGT) (hT : zTn J t n) (ht : J (26 + c) 0 = nI t) (hk : J (26 + c) 1 = 1) (hr : r ≤ n) (hb : ∀ p, p < n → (zbl (zky J G t p) (G (26 + c) 2) true ↔ p < r)) (hp : n ≤ r) : zK X 2 m_Mac_advance [.ref 1, .ref (26 + c)] J G (some (.int 0)) J G := by
  have ht3 := hT.1
  have hn9 := hT.2.1
  have h8 : decide (nI r < J (9 + 2 * t) 1) = false := by rw [hT.2.2.1]; exact decide_eq_false (nI_nlt hp (by omega))
  refine zC_of (by decide) (Nat.le_of_ble_eq_true rfl) ?_
  refine z_aload_n d_Mac_advance_0 rfl ?_
  refine z_get d_Mac_advance_1 f_Mac_147 (by omega) (zc_c hc _ _) rfl ?_
  refine z_if_ne d_Mac_advance_4 9 (by decide) (fun _ => ?_) (fun h9 => absurd h9 (by rw [hk]; decide))
  refine z_aload_n d_Mac_advance_9 rfl ?_
  refine z_get d_Mac_advance_10 f_Mac_12 (by omega) rfl rfl ?_
  refine z_aload_n d_Mac_advance_13 rfl ?_
  refine z_get d_Mac_advance_14 f_Mac_140 (by omega) (zc_c hc _ _) rfl ?_
  refine z_aload_n d_Mac_advance_17 rfl ?_
  refine z_get d_Mac_advance_18 f_Mac_155 (by omega) (zc_c hc _ _) rfl ?_
  refine z_iconst (v := 1) d_Mac_advance_21 (by decide) ?_
  rw [ht]
  refine z_callV1 d_Mac_advance_22 g_Mac_159 (c_Sto_rows X J G hT (G (26 + c) 2) true hr hb) (by omega) rfl rfl rfl ⟨by decide, by decide, by decide, by decide⟩ rfl (Nat.le_of_ble_eq_true rfl) ?_
  refine z_istore_n (lv' := [(0, _), (1, _), (2, _)]) d_Mac_advance_25 (by decide) rfl ?_
  refine z_aload_n d_Mac_advance_26 rfl ?_
  refine z_get d_Mac_advance_27 f_Mac_12 (by omega) rfl rfl ?_
  refine z_aload_n d_Mac_advance_30 rfl ?_
  refine z_get d_Mac_advance_31 f_Mac_140 (by omega) (zc_c hc _ _) rfl ?_
  refine z_iload_n d_Mac_advance_34 rfl ?_
  rw [ht]
  refine z_callV1 d_Mac_advance_35 g_Mac_143 (c_Sto_hasPlace X ht3 J G (nI r)) (by omega) rfl rfl rfl ⟨by decide, by decide, by decide, by decide⟩ rfl (Nat.le_of_ble_eq_true rfl) ?_
  refine z_if_eq d_Mac_advance_38 54 (by decide) (fun _ => ?_) (fun h9 => absurd (by rw [h8]; rfl) h9)
  refine z_iconst (v := 0) d_Mac_advance_54 (by decide) ?_
  exact z_zret d_Mac_advance_55 rfl (by decide) (by decide) (by decide) rfl rfl
set_option maxRecDepth 100000 in
set_option maxHeartbeats 4000000 in
theorem c_Mac_seek0 (X : zX) {c : Nat} (hc : c < 3) (J : zJT) (G : zGT) {i : Nat} (hi : i < 16) (hvi : J 24 i = 0) : zK X 2 m_Mac_seek [.ref 1, .ref (26 + c), .int (nI i)] J G (some (.int 0)) (va_up J (26 + c) (va_up (J (26 + c)) 1 (zb false))) G := by
  refine zC_of (by decide) (Nat.le_of_ble_eq_true rfl) ?_
  refine z_aload_n d_Mac_seek_0 rfl ?_
  refine z_get d_Mac_seek_1 f_Mac_37 (by omega) rfl rfl ?_
  refine z_iload_n d_Mac_seek_4 rfl ?_
  refine z_callV1 d_Mac_seek_5 g_Mac_125 (c_Val_has X 0 zVal22 (show zin (nI i) i 16 from ⟨rfl, hi, by decide⟩) J G (by rw [show J (22 + 2) i = 0 from hvi]; decide)) (by omega) rfl rfl rfl ⟨by decide, by decide, by decide, by decide⟩ rfl (Nat.le_of_ble_eq_true rfl) ?_
  refine z_if_ne d_Mac_seek_8 18 (by decide) (fun h9 => absurd h9 (fun h9 => h9 hvi)) (fun _ => ?_)
  refine z_aload_n d_Mac_seek_11 rfl ?_
  refine z_iconst (v := 0) d_Mac_seek_12 (by decide) ?_
  refine z_put d_Mac_seek_13 f_Mac_147 p_5_1 (by omega) (zc_c hc _ _) (Nat.le_of_ble_eq_true rfl) (zb_n false) (zb_f false) (hp_c1 hc) ?_
  refine z_iconst (v := 0) d_Mac_seek_16 (by decide) ?_
  exact z_zret d_Mac_seek_17 rfl (by decide) (by decide) (by decide) rfl rfl
set_option maxRecDepth 100000 in
set_option maxHeartbeats 4000000 in
theorem c_Mac_seek1_1 (X : zX) {c t n r : Nat} (hc : c < 3) (J : zJT) (G : zGT) (hT : zTn J t n) (ht : J (26 + c) 0 = nI t) {i : Nat} (hi : i < 16) (hvi : J 24 i = 1) (hr : r ≤ n) (hb : ∀ p, p < n → (zbl (zky J G t p) (G 23 i) false ↔ p < r)) (hp : r < n) : zK X 2 m_Mac_seek [.ref 1, .ref (26 + c), .int (nI i)] J G (some (.int 1)) (va_up J (26 + c) (va_up (J (26 + c)) 1 (zb true))) (va_up G (26 + c) (va_up (G (26 + c)) 2 (zky J G t r))) := by
  have ht3 := hT.1
  have hn9 := hT.2.1
  refine zC_of (by decide) (Nat.le_of_ble_eq_true rfl) ?_
  refine z_aload_n d_Mac_seek_0 rfl ?_
  refine z_get d_Mac_seek_1 f_Mac_37 (by omega) rfl rfl ?_
  refine z_iload_n d_Mac_seek_4 rfl ?_
  refine z_callV1 d_Mac_seek_5 g_Mac_125 (c_Val_has X 0 zVal22 (show zin (nI i) i 16 from ⟨rfl, hi, by decide⟩) J G (by rw [show J (22 + 2) i = 1 from hvi]; decide)) (by omega) rfl rfl rfl ⟨by decide, by decide, by decide, by decide⟩ rfl (Nat.le_of_ble_eq_true rfl) ?_
  refine z_if_ne d_Mac_seek_8 18 (by decide) (fun _ => ?_) (fun h9 => absurd h9 (by rw [show J (22 + 2) i = 1 from hvi]; decide))
  refine z_aload_n d_Mac_seek_18 rfl ?_
  refine z_aload_n d_Mac_seek_19 rfl ?_
  refine z_aload_n d_Mac_seek_20 rfl ?_
  refine z_get d_Mac_seek_21 f_Mac_12 (by omega) rfl rfl ?_
  refine z_aload_n d_Mac_seek_24 rfl ?_
  refine z_get d_Mac_seek_25 f_Mac_140 (by omega) (zc_c hc _ _) rfl ?_
  refine z_aload_n d_Mac_seek_28 rfl ?_
  refine z_get d_Mac_seek_29 f_Mac_37 (by omega) rfl rfl ?_
  refine z_iload_n d_Mac_seek_32 rfl ?_
  refine z_callV1 d_Mac_seek_33 g_Mac_163 (c_Val_number X 0 zVal22 (show zin (nI i) i 16 from ⟨rfl, hi, by decide⟩) J G) (by omega) rfl rfl rfl ⟨by decide, by decide, by decide, by decide⟩ rfl (Nat.le_of_ble_eq_true rfl) ?_
  refine z_iconst (v := 0) d_Mac_seek_36 (by decide) ?_
  rw [ht]
  refine z_callV1 d_Mac_seek_37 g_Mac_159 (c_Sto_rows X J G hT (G 23 i) false hr hb) (by omega) rfl rfl rfl ⟨by decide, by decide, by decide, by decide⟩ rfl (Nat.le_of_ble_eq_true rfl) ?_
  refine z_callV1 d_Mac_seek_40 g_Mac_89 (c_Mac_moveTo1 X hc J G hT ht hp) (by omega) rfl rfl rfl ⟨by decide, by decide, by decide, by decide⟩ rfl (Nat.le_of_ble_eq_true rfl) ?_
  exact z_zret d_Mac_seek_43 rfl (by decide) (by decide) (by decide) rfl rfl
set_option maxRecDepth 100000 in
set_option maxHeartbeats 4000000 in
theorem c_Mac_seek1_0 (X : zX) {c t n r : Nat} (hc : c < 3) (J : zJT) (G : zGT) (hT : zTn J t n) (ht : J (26 + c) 0 = nI t) {i : Nat} (hi : i < 16) (hvi : J 24 i = 1) (hr : r ≤ n) (hb : ∀ p, p < n → (zbl (zky J G t p) (G 23 i) false ↔ p < r)) (hp : n ≤ r) : zK X 2 m_Mac_seek [.ref 1, .ref (26 + c), .int (nI i)] J G (some (.int 0)) (va_up J (26 + c) (va_up (J (26 + c)) 1 (zb false))) G := by
  have ht3 := hT.1
  have hn9 := hT.2.1
  refine zC_of (by decide) (Nat.le_of_ble_eq_true rfl) ?_
  refine z_aload_n d_Mac_seek_0 rfl ?_
  refine z_get d_Mac_seek_1 f_Mac_37 (by omega) rfl rfl ?_
  refine z_iload_n d_Mac_seek_4 rfl ?_
  refine z_callV1 d_Mac_seek_5 g_Mac_125 (c_Val_has X 0 zVal22 (show zin (nI i) i 16 from ⟨rfl, hi, by decide⟩) J G (by rw [show J (22 + 2) i = 1 from hvi]; decide)) (by omega) rfl rfl rfl ⟨by decide, by decide, by decide, by decide⟩ rfl (Nat.le_of_ble_eq_true rfl) ?_
  refine z_if_ne d_Mac_seek_8 18 (by decide) (fun _ => ?_) (fun h9 => absurd h9 (by rw [show J (22 + 2) i = 1 from hvi]; decide))
  refine z_aload_n d_Mac_seek_18 rfl ?_
  refine z_aload_n d_Mac_seek_19 rfl ?_
  refine z_aload_n d_Mac_seek_20 rfl ?_
  refine z_get d_Mac_seek_21 f_Mac_12 (by omega) rfl rfl ?_
  refine z_aload_n d_Mac_seek_24 rfl ?_
  refine z_get d_Mac_seek_25 f_Mac_140 (by omega) (zc_c hc _ _) rfl ?_
  refine z_aload_n d_Mac_seek_28 rfl ?_
  refine z_get d_Mac_seek_29 f_Mac_37 (by omega) rfl rfl ?_
  refine z_iload_n d_Mac_seek_32 rfl ?_
  refine z_callV1 d_Mac_seek_33 g_Mac_163 (c_Val_number X 0 zVal22 (show zin (nI i) i 16 from ⟨rfl, hi, by decide⟩) J G) (by omega) rfl rfl rfl ⟨by decide, by decide, by decide, by decide⟩ rfl (Nat.le_of_ble_eq_true rfl) ?_
  refine z_iconst (v := 0) d_Mac_seek_36 (by decide) ?_
  rw [ht]
  refine z_callV1 d_Mac_seek_37 g_Mac_159 (c_Sto_rows X J G hT (G 23 i) false hr hb) (by omega) rfl rfl rfl ⟨by decide, by decide, by decide, by decide⟩ rfl (Nat.le_of_ble_eq_true rfl) ?_
  refine z_callV1 d_Mac_seek_40 g_Mac_89 (c_Mac_moveTo0 X hc J G hT ht ⟨hp, by omega⟩) (by omega) rfl rfl rfl ⟨by decide, by decide, by decide, by decide⟩ rfl (Nat.le_of_ble_eq_true rfl) ?_
  exact z_zret d_Mac_seek_43 rfl (by decide) (by decide) (by decide) rfl rfl
set_option maxRecDepth 100000 in
set_option maxHeartbeats 4000000 in
theorem c_Mac_slotAt0 (X : zX) {c : Nat} (hc : c < 3) (J : zJT) (G : zGT) (hk : J (26 + c) 1 = 0) : zK X 2 m_Mac_slotAt [.ref 1, .ref (26 + c)] J G (some (.int (-1))) J G := by
  refine zC_of (by decide) (Nat.le_of_ble_eq_true rfl) ?_
  refine z_aload_n d_Mac_slotAt_0 rfl ?_
  refine z_get d_Mac_slotAt_1 f_Mac_147 (by omega) (zc_c hc _ _) rfl ?_
  refine z_if_eq d_Mac_slotAt_4 25 (by decide) (fun _ => ?_) (fun h9 => absurd hk h9)
  refine z_iconst (v := (-1)) d_Mac_slotAt_25 (by decide) ?_
  exact z_iret d_Mac_slotAt_26 rfl (by decide) (by decide) rfl rfl
set_option maxRecDepth 100000 in
set_option maxHeartbeats 4000000 in
theorem c_Mac_slotAt1 (X : zX) {c t n r : Nat} (hc : c < 3) (J : zJT) (G : zGT) (hT : zTn J t n) (ht : J (26 + c) 0 = nI t) (hk : J (26 + c) 1 = 1) (hr : r ≤ n) (hb : ∀ p, p < n → (zbl (zky J G t p) (G (26 + c) 2) false ↔ p < r)) : zK X 2 m_Mac_slotAt [.ref 1, .ref (26 + c)] J G (some (.int (if r < n ∧ zky J G t r = G (26 + c) 2 then J (10 + 2 * t) r else -1))) J G := by
  have ht3 := hT.1
  have hn9 := hT.2.1
  refine zC_of (by decide) (Nat.le_of_ble_eq_true rfl) ?_
  refine z_aload_n d_Mac_slotAt_0 rfl ?_
  refine z_get d_Mac_slotAt_1 f_Mac_147 (by omega) (zc_c hc _ _) rfl ?_
  refine z_if_eq d_Mac_slotAt_4 25 (by decide) (fun h9 => absurd h9 (by rw [hk]; decide)) (fun _ => ?_)
  refine z_aload_n d_Mac_slotAt_7 rfl ?_
  refine z_get d_Mac_slotAt_8 f_Mac_12 (by omega) rfl rfl ?_
  refine z_aload_n d_Mac_slotAt_11 rfl ?_
  refine z_get d_Mac_slotAt_12 f_Mac_140 (by omega) (zc_c hc _ _) rfl ?_
  refine z_aload_n d_Mac_slotAt_15 rfl ?_
  refine z_get d_Mac_slotAt_16 f_Mac_155 (by omega) (zc_c hc _ _) rfl ?_
  rw [ht]
  refine z_callV1 d_Mac_slotAt_19 g_Mac_167 (c_Sto_slotOf X J G hT (G (26 + c) 2) hr hb) (by omega) rfl rfl rfl ⟨by decide, by decide, by decide, by decide⟩ rfl (Nat.le_of_ble_eq_true rfl) ?_
  refine z_goto d_Mac_slotAt_22 26 (by decide) ?_
  exact z_iret d_Mac_slotAt_26 rfl (by decide) (by decide) rfl rfl
set_option maxRecDepth 100000 in
set_option maxHeartbeats 4000000 in
theorem c_Mac_readColumn0 (X : zX) {c : Nat} (hc : c < 3) (J : zJT) (G : zGT) {i : Nat} (hi : i < 16) (k : Int32) (hs : zK X 2 m_Mac_slotAt [.ref 1, .ref (26 + c)] J G (some (.int (-1))) J G) : zK X 3 m_Mac_readColumn [.ref 1, .ref (26 + c), .int k, .int (nI i)] J G none (va_up J 24 (upd (J 24) i 0)) (va_up G 23 (vp_updL (G 23) i 0)) := by
  refine zC_of (by decide) (Nat.le_of_ble_eq_true rfl) ?_
  refine z_aload_n d_Mac_readColumn_0 rfl ?_
  refine z_aload_n d_Mac_readColumn_1 rfl ?_
  refine z_callV1 d_Mac_readColumn_2 g_Mac_171 (hs) (by omega) rfl rfl rfl ⟨by decide, by decide, by decide, by decide⟩ rfl (Nat.le_of_ble_eq_true rfl) ?_
  refine z_istore (lv' := [(0, _), (1, _), (2, _), (3, _), (4, _)]) d_Mac_readColumn_5 (by decide) rfl ?_
  refine z_iload d_Mac_readColumn_7 rfl ?_
  refine z_iconst (v := (-1)) d_Mac_readColumn_9 (by decide) ?_
  refine z_icmp_eq d_Mac_readColumn_10 28 (by decide) (fun _ => ?_) (fun h9 => absurd rfl h9)
  refine z_aload_n d_Mac_readColumn_28 rfl ?_
  refine z_get d_Mac_readColumn_29 f_Mac_37 (by omega) rfl rfl ?_
  refine z_iload_n d_Mac_readColumn_32 rfl ?_
  refine z_callV0 d_Mac_readColumn_33 g_Mac_122 (c_Val_clear X 0 zVal22 (show zin (nI i) i 16 from ⟨rfl, hi, by decide⟩) J G) (by omega) rfl rfl rfl ⟨by decide, by decide, by decide, by decide⟩ rfl (Nat.le_of_ble_eq_true rfl) ?_
  refine z_goto d_Mac_readColumn_36 60 (by decide) ?_
  exact z_vret d_Mac_readColumn_60 rfl (by decide) (by decide) rfl
set_option maxRecDepth 100000 in
set_option maxHeartbeats 4000000 in
theorem c_Mac_readColumn1 (X : zX) {c t : Nat} (hc : c < 3) (J : zJT) (G : zGT) {i : Nat} (hi : i < 16) (k v : Int32) (ht3 : t < 3) (ht : J (26 + c) 0 = nI t) (hv : ¬ v = -1) (hs : zK X 2 m_Mac_slotAt [.ref 1, .ref (26 + c)] J G (some (.int v)) J G) (hyes : (decide (0 ≤ nI t) && decide (nI t < J 2 1)) = true) (hcol : (decide (0 ≤ k) && decide (k < J (9 + 2 * t) 0)) = false) : zK X 3 m_Mac_readColumn [.ref 1, .ref (26 + c), .int k, .int (nI i)] J G none (va_up J 24 (upd (J 24) i 0)) (va_up G 23 (vp_updL (G 23) i 0)) := by
  refine zC_of (by decide) (Nat.le_of_ble_eq_true rfl) ?_
  refine z_aload_n d_Mac_readColumn_0 rfl ?_
  refine z_aload_n d_Mac_readColumn_1 rfl ?_
  refine z_callV1 d_Mac_readColumn_2 g_Mac_171 (hs) (by omega) rfl rfl rfl ⟨by decide, by decide, by decide, by decide⟩ rfl (Nat.le_of_ble_eq_true rfl) ?_
  refine z_istore (lv' := [(0, _), (1, _), (2, _), (3, _), (4, _)]) d_Mac_readColumn_5 (by decide) rfl ?_
  refine z_iload d_Mac_readColumn_7 rfl ?_
  refine z_iconst (v := (-1)) d_Mac_readColumn_9 (by decide) ?_
  refine z_icmp_eq d_Mac_readColumn_10 28 (by decide) (fun h9 => absurd h9 hv) (fun _ => ?_)
  refine z_aload_n d_Mac_readColumn_13 rfl ?_
  refine z_get d_Mac_readColumn_14 f_Mac_12 (by omega) rfl rfl ?_
  refine z_aload_n d_Mac_readColumn_17 rfl ?_
  refine z_get d_Mac_readColumn_18 f_Mac_140 (by omega) (zc_c hc _ _) rfl ?_
  refine z_iload_n d_Mac_readColumn_21 rfl ?_
  rw [ht]
  refine z_callV1 d_Mac_readColumn_22 g_Mac_175 (c_Sto_hasColumn X ht3 k J G hyes) (by omega) rfl rfl rfl ⟨by decide, by decide, by decide, by decide⟩ rfl (Nat.le_of_ble_eq_true rfl) ?_
  refine z_if_ne d_Mac_readColumn_25 39 (by decide) (fun h9 => absurd h9 (fun h9 => h9 (by rw [hcol]; rfl))) (fun _ => ?_)
  refine z_aload_n d_Mac_readColumn_28 rfl ?_
  refine z_get d_Mac_readColumn_29 f_Mac_37 (by omega) rfl rfl ?_
  refine z_iload_n d_Mac_readColumn_32 rfl ?_
  refine z_callV0 d_Mac_readColumn_33 g_Mac_122 (c_Val_clear X 0 zVal22 (show zin (nI i) i 16 from ⟨rfl, hi, by decide⟩) J G) (by omega) rfl rfl rfl ⟨by decide, by decide, by decide, by decide⟩ rfl (Nat.le_of_ble_eq_true rfl) ?_
  refine z_goto d_Mac_readColumn_36 60 (by decide) ?_
  exact z_vret d_Mac_readColumn_60 rfl (by decide) (by decide) rfl
set_option maxRecDepth 100000 in
set_option maxHeartbeats 4000000 in
theorem c_Mac_readColumn2 (X : zX) {c t k u : Nat} (hc : c < 3) (J : zJT) (G : zGT) {i : Nat} (hi : i < 16) (ht3 : t < 3) (ht : J (26 + c) 0 = nI t) (hu : u < 90) (hk4 : k < 4) (hs : zK X 2 m_Mac_slotAt [.ref 1, .ref (26 + c)] J G (some (.int (nI u))) J G) (hyes : (decide (0 ≤ nI t) && decide (nI t < J 2 1)) = true) (hcol : (decide (0 ≤ nI k) && decide (nI k < J (9 + 2 * t) 0)) = true) (hbool : vp_nar .boolean (J 6 (4 * u + k)) = J 6 (4 * u + k)) : zK X 3 m_Mac_readColumn [.ref 1, .ref (26 + c), .int (nI k), .int (nI i)] J G none (va_up J 24 (upd (J 24) i (J 6 (4 * u + k)))) (va_up G 23 (vp_updL (G 23) i (G 5 (4 * u + k)))) := by
  refine zC_of (by decide) (Nat.le_of_ble_eq_true rfl) ?_
  refine z_aload_n d_Mac_readColumn_0 rfl ?_
  refine z_aload_n d_Mac_readColumn_1 rfl ?_
  refine z_callV1 d_Mac_readColumn_2 g_Mac_171 (hs) (by omega) rfl rfl rfl ⟨by decide, by decide, by decide, by decide⟩ rfl (Nat.le_of_ble_eq_true rfl) ?_
  refine z_istore (lv' := [(0, _), (1, _), (2, _), (3, _), (4, _)]) d_Mac_readColumn_5 (by decide) rfl ?_
  refine z_iload d_Mac_readColumn_7 rfl ?_
  refine z_iconst (v := (-1)) d_Mac_readColumn_9 (by decide) ?_
  refine z_icmp_eq d_Mac_readColumn_10 28 (by decide) (fun h9 => absurd h9 (fun h9 => absurd h9 (nI_m1 (by omega)))) (fun _ => ?_)
  refine z_aload_n d_Mac_readColumn_13 rfl ?_
  refine z_get d_Mac_readColumn_14 f_Mac_12 (by omega) rfl rfl ?_
  refine z_aload_n d_Mac_readColumn_17 rfl ?_
  refine z_get d_Mac_readColumn_18 f_Mac_140 (by omega) (zc_c hc _ _) rfl ?_
  refine z_iload_n d_Mac_readColumn_21 rfl ?_
  rw [ht]
  refine z_callV1 d_Mac_readColumn_22 g_Mac_175 (c_Sto_hasColumn X ht3 (nI k) J G hyes) (by omega) rfl rfl rfl ⟨by decide, by decide, by decide, by decide⟩ rfl (Nat.le_of_ble_eq_true rfl) ?_
  refine z_if_ne d_Mac_readColumn_25 39 (by decide) (fun _ => ?_) (fun h9 => absurd h9 (by rw [hcol]; decide))
  refine z_aload_n d_Mac_readColumn_39 rfl ?_
  refine z_get d_Mac_readColumn_40 f_Mac_37 (by omega) rfl rfl ?_
  refine z_iload_n d_Mac_readColumn_43 rfl ?_
  refine z_aload_n d_Mac_readColumn_44 rfl ?_
  refine z_get d_Mac_readColumn_45 f_Mac_12 (by omega) rfl rfl ?_
  refine z_get d_Mac_readColumn_48 f_Mac_178 (by omega) rfl rfl ?_
  refine z_iload d_Mac_readColumn_51 rfl ?_
  refine z_iconst (v := 4) d_Mac_readColumn_53 (by decide) ?_
  refine z_imul d_Mac_readColumn_54 ?_
  refine z_iload_n d_Mac_readColumn_55 rfl ?_
  refine z_iadd d_Mac_readColumn_56 ?_
  refine z_callV0 d_Mac_readColumn_57 g_Mac_181 (c_Val_copy X zVal22 (show zin (nI i) i 16 from ⟨rfl, hi, by decide⟩) zVal4 (show zin (nI u * 4 + nI k) (4 * u + k) 360 from ⟨by rw [show (4 : Int32) = nI 4 from rfl, pk_mul, nI_add, Nat.mul_comm], by omega, by decide⟩) J G hbool) (by omega) rfl rfl rfl ⟨by decide, by decide, by decide, by decide⟩ rfl (Nat.le_of_ble_eq_true rfl) ?_
  exact z_vret d_Mac_readColumn_60 rfl (by decide) (by decide) rfl
set_option maxRecDepth 100000 in
set_option maxHeartbeats 4000000 in
theorem c_Mac_readKey0 (X : zX) {c : Nat} (hc : c < 3) (J : zJT) (G : zGT) {i : Nat} (hi : i < 16) (hs : zK X 2 m_Mac_slotAt [.ref 1, .ref (26 + c)] J G (some (.int (-1))) J G) : zK X 3 m_Mac_readKey [.ref 1, .ref (26 + c), .int (nI i)] J G none (va_up J 24 (upd (J 24) i 0)) (va_up G 23 (vp_updL (G 23) i 0)) := by
  refine zC_of (by decide) (Nat.le_of_ble_eq_true rfl) ?_
  refine z_aload_n d_Mac_readKey_0 rfl ?_
  refine z_aload_n d_Mac_readKey_1 rfl ?_
  refine z_callV1 d_Mac_readKey_2 g_Mac_171 (hs) (by omega) rfl rfl rfl ⟨by decide, by decide, by decide, by decide⟩ rfl (Nat.le_of_ble_eq_true rfl) ?_
  refine z_iconst (v := (-1)) d_Mac_readKey_5 (by decide) ?_
  refine z_icmp_ne d_Mac_readKey_6 20 (by decide) (fun h9 => absurd h9 (fun h9 => h9 rfl)) (fun _ => ?_)
  refine z_aload_n d_Mac_readKey_9 rfl ?_
  refine z_get d_Mac_readKey_10 f_Mac_37 (by omega) rfl rfl ?_
  refine z_iload_n d_Mac_readKey_13 rfl ?_
  refine z_callV0 d_Mac_readKey_14 g_Mac_122 (c_Val_clear X 0 zVal22 (show zin (nI i) i 16 from ⟨rfl, hi, by decide⟩) J G) (by omega) rfl rfl rfl ⟨by decide, by decide, by decide, by decide⟩ rfl (Nat.le_of_ble_eq_true rfl) ?_
  refine z_goto d_Mac_readKey_17 32 (by decide) ?_
  exact z_vret d_Mac_readKey_32 rfl (by decide) (by decide) rfl
set_option maxRecDepth 100000 in
set_option maxHeartbeats 4000000 in
theorem c_Mac_readKey1 (X : zX) {c : Nat} (hc : c < 3) (J : zJT) (G : zGT) {i : Nat} (hi : i < 16) (v : Int32) (hv : ¬ v = -1) (hs : zK X 2 m_Mac_slotAt [.ref 1, .ref (26 + c)] J G (some (.int v)) J G) : zK X 3 m_Mac_readKey [.ref 1, .ref (26 + c), .int (nI i)] J G none (va_up J 24 (upd (J 24) i 1)) (va_up G 23 (vp_updL (G 23) i (G (26 + c) 2))) := by
  refine zC_of (by decide) (Nat.le_of_ble_eq_true rfl) ?_
  refine z_aload_n d_Mac_readKey_0 rfl ?_
  refine z_aload_n d_Mac_readKey_1 rfl ?_
  refine z_callV1 d_Mac_readKey_2 g_Mac_171 (hs) (by omega) rfl rfl rfl ⟨by decide, by decide, by decide, by decide⟩ rfl (Nat.le_of_ble_eq_true rfl) ?_
  refine z_iconst (v := (-1)) d_Mac_readKey_5 (by decide) ?_
  refine z_icmp_ne d_Mac_readKey_6 20 (by decide) (fun _ => ?_) (fun h9 => absurd h9 hv)
  refine z_aload_n d_Mac_readKey_20 rfl ?_
  refine z_get d_Mac_readKey_21 f_Mac_37 (by omega) rfl rfl ?_
  refine z_iload_n d_Mac_readKey_24 rfl ?_
  refine z_aload_n d_Mac_readKey_25 rfl ?_
  refine z_get d_Mac_readKey_26 f_Mac_155 (by omega) (zc_c hc _ _) rfl ?_
  refine z_callV0 d_Mac_readKey_29 g_Mac_118 (c_Val_put X 0 zVal22 (show zin (nI i) i 16 from ⟨rfl, hi, by decide⟩) J G _) (by omega) rfl rfl rfl ⟨by decide, by decide, by decide, by decide⟩ rfl (Nat.le_of_ble_eq_true rfl) ?_
  exact z_vret d_Mac_readKey_32 rfl (by decide) (by decide) rfl
set_option maxRecDepth 100000 in
set_option maxHeartbeats 4000000 in
theorem c_Mac_sum1 (X : zX) (J : zJT) (G : zGT) {a b i : Nat} (ha : a < 16) (hb : b < 16) (hi : i < 16) (hva : J 24 a = 1) (hvb : J 24 b = 1) : zK X 1 m_Mac_sum [.ref 1, .int (nI a), .int (nI b), .int (nI i)] J G none (va_up J 24 (upd (J 24) i 1)) (va_up G 23 (vp_updL (G 23) i (G 23 a + G 23 b))) := by
  refine zC_of (by decide) (Nat.le_of_ble_eq_true rfl) ?_
  refine z_aload_n d_Mac_sum_0 rfl ?_
  refine z_get d_Mac_sum_1 f_Mac_37 (by omega) rfl rfl ?_
  refine z_iload_n d_Mac_sum_4 rfl ?_
  refine z_callV1 d_Mac_sum_5 g_Mac_125 (c_Val_has X 0 zVal22 (show zin (nI a) a 16 from ⟨rfl, ha, by decide⟩) J G (by rw [show J (22 + 2) a = 1 from hva]; decide)) (by omega) rfl rfl rfl ⟨by decide, by decide, by decide, by decide⟩ rfl (Nat.le_of_ble_eq_true rfl) ?_
  refine z_if_eq d_Mac_sum_8 50 (by decide) (fun h9 => absurd h9 (by rw [show J (22 + 2) a = 1 from hva]; decide)) (fun _ => ?_)
  refine z_aload_n d_Mac_sum_11 rfl ?_
  refine z_get d_Mac_sum_12 f_Mac_37 (by omega) rfl rfl ?_
  refine z_iload_n d_Mac_sum_15 rfl ?_
  refine z_callV1 d_Mac_sum_16 g_Mac_125 (c_Val_has X 0 zVal22 (show zin (nI b) b 16 from ⟨rfl, hb, by decide⟩) J G (by rw [show J (22 + 2) b = 1 from hvb]; decide)) (by omega) rfl rfl rfl ⟨by decide, by decide, by decide, by decide⟩ rfl (Nat.le_of_ble_eq_true rfl) ?_
  refine z_if_eq d_Mac_sum_19 50 (by decide) (fun h9 => absurd h9 (by rw [show J (22 + 2) b = 1 from hvb]; decide)) (fun _ => ?_)
  refine z_aload_n d_Mac_sum_22 rfl ?_
  refine z_get d_Mac_sum_23 f_Mac_37 (by omega) rfl rfl ?_
  refine z_iload_n d_Mac_sum_26 rfl ?_
  refine z_aload_n d_Mac_sum_27 rfl ?_
  refine z_get d_Mac_sum_28 f_Mac_37 (by omega) rfl rfl ?_
  refine z_iload_n d_Mac_sum_31 rfl ?_
  refine z_callV1 d_Mac_sum_32 g_Mac_163 (c_Val_number X 0 zVal22 (show zin (nI a) a 16 from ⟨rfl, ha, by decide⟩) J G) (by omega) rfl rfl rfl ⟨by decide, by decide, by decide, by decide⟩ rfl (Nat.le_of_ble_eq_true rfl) ?_
  refine z_aload_n d_Mac_sum_35 rfl ?_
  refine z_get d_Mac_sum_36 f_Mac_37 (by omega) rfl rfl ?_
  refine z_iload_n d_Mac_sum_39 rfl ?_
  refine z_callV1 d_Mac_sum_40 g_Mac_163 (c_Val_number X 0 zVal22 (show zin (nI b) b 16 from ⟨rfl, hb, by decide⟩) J G) (by omega) rfl rfl rfl ⟨by decide, by decide, by decide, by decide⟩ rfl (Nat.le_of_ble_eq_true rfl) ?_
  refine z_ladd d_Mac_sum_43 ?_
  refine z_callV0 d_Mac_sum_44 g_Mac_118 (c_Val_put X 0 zVal22 (show zin (nI i) i 16 from ⟨rfl, hi, by decide⟩) J G _) (by omega) rfl rfl rfl ⟨by decide, by decide, by decide, by decide⟩ rfl (Nat.le_of_ble_eq_true rfl) ?_
  refine z_goto d_Mac_sum_47 58 (by decide) ?_
  exact z_vret d_Mac_sum_58 rfl (by decide) (by decide) rfl
set_option maxRecDepth 100000 in
set_option maxHeartbeats 4000000 in
theorem c_Mac_sum0 (X : zX) (J : zJT) (G : zGT) {a b i : Nat} (ha : a < 16) (hb : b < 16) (hi : i < 16) (hva : J 24 a = 0) : zK X 1 m_Mac_sum [.ref 1, .int (nI a), .int (nI b), .int (nI i)] J G none (va_up J 24 (upd (J 24) i 0)) (va_up G 23 (vp_updL (G 23) i 0)) := by
  refine zC_of (by decide) (Nat.le_of_ble_eq_true rfl) ?_
  refine z_aload_n d_Mac_sum_0 rfl ?_
  refine z_get d_Mac_sum_1 f_Mac_37 (by omega) rfl rfl ?_
  refine z_iload_n d_Mac_sum_4 rfl ?_
  refine z_callV1 d_Mac_sum_5 g_Mac_125 (c_Val_has X 0 zVal22 (show zin (nI a) a 16 from ⟨rfl, ha, by decide⟩) J G (by rw [show J (22 + 2) a = 0 from hva]; decide)) (by omega) rfl rfl rfl ⟨by decide, by decide, by decide, by decide⟩ rfl (Nat.le_of_ble_eq_true rfl) ?_
  refine z_if_eq d_Mac_sum_8 50 (by decide) (fun _ => ?_) (fun h9 => absurd hva h9)
  refine z_aload_n d_Mac_sum_50 rfl ?_
  refine z_get d_Mac_sum_51 f_Mac_37 (by omega) rfl rfl ?_
  refine z_iload_n d_Mac_sum_54 rfl ?_
  refine z_callV0 d_Mac_sum_55 g_Mac_122 (c_Val_clear X 0 zVal22 (show zin (nI i) i 16 from ⟨rfl, hi, by decide⟩) J G) (by omega) rfl rfl rfl ⟨by decide, by decide, by decide, by decide⟩ rfl (Nat.le_of_ble_eq_true rfl) ?_
  exact z_vret d_Mac_sum_58 rfl (by decide) (by decide) rfl
set_option maxRecDepth 100000 in
set_option maxHeartbeats 4000000 in
theorem c_Mac_sum2 (X : zX) (J : zJT) (G : zGT) {a b i : Nat} (ha : a < 16) (hb : b < 16) (hi : i < 16) (hva : J 24 a = 1) (hvb : J 24 b = 0) : zK X 1 m_Mac_sum [.ref 1, .int (nI a), .int (nI b), .int (nI i)] J G none (va_up J 24 (upd (J 24) i 0)) (va_up G 23 (vp_updL (G 23) i 0)) := by
  refine zC_of (by decide) (Nat.le_of_ble_eq_true rfl) ?_
  refine z_aload_n d_Mac_sum_0 rfl ?_
  refine z_get d_Mac_sum_1 f_Mac_37 (by omega) rfl rfl ?_
  refine z_iload_n d_Mac_sum_4 rfl ?_
  refine z_callV1 d_Mac_sum_5 g_Mac_125 (c_Val_has X 0 zVal22 (show zin (nI a) a 16 from ⟨rfl, ha, by decide⟩) J G (by rw [show J (22 + 2) a = 1 from hva]; decide)) (by omega) rfl rfl rfl ⟨by decide, by decide, by decide, by decide⟩ rfl (Nat.le_of_ble_eq_true rfl) ?_
  refine z_if_eq d_Mac_sum_8 50 (by decide) (fun h9 => absurd h9 (by rw [show J (22 + 2) a = 1 from hva]; decide)) (fun _ => ?_)
  refine z_aload_n d_Mac_sum_11 rfl ?_
  refine z_get d_Mac_sum_12 f_Mac_37 (by omega) rfl rfl ?_
  refine z_iload_n d_Mac_sum_15 rfl ?_
  refine z_callV1 d_Mac_sum_16 g_Mac_125 (c_Val_has X 0 zVal22 (show zin (nI b) b 16 from ⟨rfl, hb, by decide⟩) J G (by rw [show J (22 + 2) b = 0 from hvb]; decide)) (by omega) rfl rfl rfl ⟨by decide, by decide, by decide, by decide⟩ rfl (Nat.le_of_ble_eq_true rfl) ?_
  refine z_if_eq d_Mac_sum_19 50 (by decide) (fun _ => ?_) (fun h9 => absurd hvb h9)
  refine z_aload_n d_Mac_sum_50 rfl ?_
  refine z_get d_Mac_sum_51 f_Mac_37 (by omega) rfl rfl ?_
  refine z_iload_n d_Mac_sum_54 rfl ?_
  refine z_callV0 d_Mac_sum_55 g_Mac_122 (c_Val_clear X 0 zVal22 (show zin (nI i) i 16 from ⟨rfl, hi, by decide⟩) J G) (by omega) rfl rfl rfl ⟨by decide, by decide, by decide, by decide⟩ rfl (Nat.le_of_ble_eq_true rfl) ?_
  exact z_vret d_Mac_sum_58 rfl (by decide) (by decide) rfl
set_option maxRecDepth 100000 in
set_option maxHeartbeats 4000000 in
theorem c_Mac_holds0 (X : zX) (J : zJT) (G : zGT) {a b : Nat} (ha : a < 16) (hb : b < 16) (o : Int32) (hva : J 24 a = 0) : zK X 1 m_Mac_holds [.ref 1, .int o, .int (nI a), .int (nI b)] J G (some (.int 0)) J G := by
  refine zC_of (by decide) (Nat.le_of_ble_eq_true rfl) ?_
  refine z_aload_n d_Mac_holds_0 rfl ?_
  refine z_get d_Mac_holds_1 f_Mac_37 (by omega) rfl rfl ?_
  refine z_iload_n d_Mac_holds_4 rfl ?_
  refine z_callV1 d_Mac_holds_5 g_Mac_125 (c_Val_has X 0 zVal22 (show zin (nI a) a 16 from ⟨rfl, ha, by decide⟩) J G (by rw [show J (22 + 2) a = 0 from hva]; decide)) (by omega) rfl rfl rfl ⟨by decide, by decide, by decide, by decide⟩ rfl (Nat.le_of_ble_eq_true rfl) ?_
  refine z_if_eq d_Mac_holds_8 22 (by decide) (fun _ => ?_) (fun h9 => absurd hva h9)
  refine z_iconst (v := 0) d_Mac_holds_22 (by decide) ?_
  exact z_zret d_Mac_holds_23 rfl (by decide) (by decide) (by decide) rfl rfl
set_option maxRecDepth 100000 in
set_option maxHeartbeats 4000000 in
theorem c_Mac_holds1 (X : zX) (J : zJT) (G : zGT) {a b : Nat} (ha : a < 16) (hb : b < 16) (o : Int32) (hva : J 24 a = 1) (hvb : J 24 b = 0) : zK X 1 m_Mac_holds [.ref 1, .int o, .int (nI a), .int (nI b)] J G (some (.int 0)) J G := by
  refine zC_of (by decide) (Nat.le_of_ble_eq_true rfl) ?_
  refine z_aload_n d_Mac_holds_0 rfl ?_
  refine z_get d_Mac_holds_1 f_Mac_37 (by omega) rfl rfl ?_
  refine z_iload_n d_Mac_holds_4 rfl ?_
  refine z_callV1 d_Mac_holds_5 g_Mac_125 (c_Val_has X 0 zVal22 (show zin (nI a) a 16 from ⟨rfl, ha, by decide⟩) J G (by rw [show J (22 + 2) a = 1 from hva]; decide)) (by omega) rfl rfl rfl ⟨by decide, by decide, by decide, by decide⟩ rfl (Nat.le_of_ble_eq_true rfl) ?_
  refine z_if_eq d_Mac_holds_8 22 (by decide) (fun h9 => absurd h9 (by rw [show J (22 + 2) a = 1 from hva]; decide)) (fun _ => ?_)
  refine z_aload_n d_Mac_holds_11 rfl ?_
  refine z_get d_Mac_holds_12 f_Mac_37 (by omega) rfl rfl ?_
  refine z_iload_n d_Mac_holds_15 rfl ?_
  refine z_callV1 d_Mac_holds_16 g_Mac_125 (c_Val_has X 0 zVal22 (show zin (nI b) b 16 from ⟨rfl, hb, by decide⟩) J G (by rw [show J (22 + 2) b = 0 from hvb]; decide)) (by omega) rfl rfl rfl ⟨by decide, by decide, by decide, by decide⟩ rfl (Nat.le_of_ble_eq_true rfl) ?_
  refine z_if_ne d_Mac_holds_19 24 (by decide) (fun h9 => absurd h9 (fun h9 => h9 hvb)) (fun _ => ?_)
  refine z_iconst (v := 0) d_Mac_holds_22 (by decide) ?_
  exact z_zret d_Mac_holds_23 rfl (by decide) (by decide) (by decide) rfl rfl
/-- how two numbers compare, by the instruction's number -/
def zcmp (o : Nat) (x y : Int64) : Bool := match o with
  | 9 => decide (x = y)
  | 10 => decide (¬ x = y)
  | 11 => decide (x < y)
  | 12 => decide (x ≤ y)
  | 13 => decide (y < x)
  | _ => decide (y ≤ x)
set_option maxRecDepth 100000 in
set_option maxHeartbeats 4000000 in
theorem c_Mac_holds2 (X : zX) (J : zJT) (G : zGT) {a b : Nat} (ha : a < 16) (hb : b < 16) {o : Nat} (ho : 9 ≤ o ∧ o < 15) (hva : J 24 a = 1) (hvb : J 24 b = 1) : zK X 1 m_Mac_holds [.ref 1, .int (nI o), .int (nI a), .int (nI b)] J G (some (.int (zb (zcmp o (G 23 a) (G 23 b))))) J G := by
  rcases (show o = 9 ∨ o = 10 ∨ o = 11 ∨ o = 12 ∨ o = 13 ∨ o = 14 by omega) with rfl | rfl | rfl | rfl | rfl | rfl
  · refine zC_of (by decide) (Nat.le_of_ble_eq_true rfl) ?_
    refine z_aload_n d_Mac_holds_0 rfl ?_
    refine z_get d_Mac_holds_1 f_Mac_37 (by omega) rfl rfl ?_
    refine z_iload_n d_Mac_holds_4 rfl ?_
    refine z_callV1 d_Mac_holds_5 g_Mac_125 (c_Val_has X 0 zVal22 (show zin (nI a) a 16 from ⟨rfl, ha, by decide⟩) J G (by rw [show J (22 + 2) a = 1 from hva]; decide)) (by omega) rfl rfl rfl ⟨by decide, by decide, by decide, by decide⟩ rfl (Nat.le_of_ble_eq_true rfl) ?_
    refine z_if_eq d_Mac_holds_8 22 (by decide) (fun h9 => absurd h9 (by rw [show J (22 + 2) a = 1 from hva]; decide)) (fun _ => ?_)
    refine z_aload_n d_Mac_holds_11 rfl ?_
    refine z_get d_Mac_holds_12 f_Mac_37 (by omega) rfl rfl ?_
    refine z_iload_n d_Mac_holds_15 rfl ?_
    refine z_callV1 d_Mac_holds_16 g_Mac_125 (c_Val_has X 0 zVal22 (show zin (nI b) b 16 from ⟨rfl, hb, by decide⟩) J G (by rw [show J (22 + 2) b = 1 from hvb]; decide)) (by omega) rfl rfl rfl ⟨by decide, by decide, by decide, by decide⟩ rfl (Nat.le_of_ble_eq_true rfl) ?_
    refine z_if_ne d_Mac_holds_19 24 (by decide) (fun _ => ?_) (fun h9 => absurd h9 (by rw [show J (22 + 2) b = 1 from hvb]; decide))
    refine z_aload_n d_Mac_holds_24 rfl ?_
    refine z_get d_Mac_holds_25 f_Mac_37 (by omega) rfl rfl ?_
    refine z_iload_n d_Mac_holds_28 rfl ?_
    refine z_callV1 d_Mac_holds_29 g_Mac_163 (c_Val_number X 0 zVal22 (show zin (nI a) a 16 from ⟨rfl, ha, by decide⟩) J G) (by omega) rfl rfl rfl ⟨by decide, by decide, by decide, by decide⟩ rfl (Nat.le_of_ble_eq_true rfl) ?_
    refine z_aload_n d_Mac_holds_32 rfl ?_
    refine z_get d_Mac_holds_33 f_Mac_37 (by omega) rfl rfl ?_
    refine z_iload_n d_Mac_holds_36 rfl ?_
    refine z_callV1 d_Mac_holds_37 g_Mac_163 (c_Val_number X 0 zVal22 (show zin (nI b) b 16 from ⟨rfl, hb, by decide⟩) J G) (by omega) rfl rfl rfl ⟨by decide, by decide, by decide, by decide⟩ rfl (Nat.le_of_ble_eq_true rfl) ?_
    refine z_callS1 d_Mac_holds_40 g_Mac_193 (c_Lng_compare X _ _ J G) rfl ⟨by decide, by decide, by decide, by decide⟩ rfl (Nat.le_of_ble_eq_true rfl) ?_
    refine z_istore (lv' := [(0, _), (1, _), (2, _), (3, _), (4, _)]) d_Mac_holds_43 (by decide) rfl ?_
    refine z_iload_n d_Mac_holds_45 rfl ?_
    refine z_tableIn (off := 34) d_Mac_holds_46 80 (by decide) (by decide) (by decide) (by decide) ?_
    refine z_iload d_Mac_holds_80 rfl ?_
    refine z_if_ne d_Mac_holds_82 89 (by decide) (fun h82 => ?_) (fun h82 => ?_)
    · refine z_iconst (v := 0) d_Mac_holds_89 (by decide) ?_
      exact z_zret d_Mac_holds_90 rfl (by decide) (by decide) (by decide) (by simp only [zcmp]; have hq := lg_cmp_eq (G 23 a) (G 23 b); have hq2 := lg_cmp_ge (G 23 a) (G 23 b); have hq3 := lg_cmp_gt (G 23 a) (G 23 b); have hq4 := lg_cmp_lt (G 23 a) (G 23 b); have hq5 := lg_cmp_le (G 23 a) (G 23 b); simp_all [zb]) rfl
    · refine z_iconst (v := 1) d_Mac_holds_85 (by decide) ?_
      refine z_goto d_Mac_holds_86 90 (by decide) ?_
      exact z_zret d_Mac_holds_90 rfl (by decide) (by decide) (by decide) (by simp only [zcmp]; have hq := lg_cmp_eq (G 23 a) (G 23 b); have hq2 := lg_cmp_ge (G 23 a) (G 23 b); have hq3 := lg_cmp_gt (G 23 a) (G 23 b); have hq4 := lg_cmp_lt (G 23 a) (G 23 b); have hq5 := lg_cmp_le (G 23 a) (G 23 b); simp_all [zb]) rfl
  · refine zC_of (by decide) (Nat.le_of_ble_eq_true rfl) ?_
    refine z_aload_n d_Mac_holds_0 rfl ?_
    refine z_get d_Mac_holds_1 f_Mac_37 (by omega) rfl rfl ?_
    refine z_iload_n d_Mac_holds_4 rfl ?_
    refine z_callV1 d_Mac_holds_5 g_Mac_125 (c_Val_has X 0 zVal22 (show zin (nI a) a 16 from ⟨rfl, ha, by decide⟩) J G (by rw [show J (22 + 2) a = 1 from hva]; decide)) (by omega) rfl rfl rfl ⟨by decide, by decide, by decide, by decide⟩ rfl (Nat.le_of_ble_eq_true rfl) ?_
    refine z_if_eq d_Mac_holds_8 22 (by decide) (fun h9 => absurd h9 (by rw [show J (22 + 2) a = 1 from hva]; decide)) (fun _ => ?_)
    refine z_aload_n d_Mac_holds_11 rfl ?_
    refine z_get d_Mac_holds_12 f_Mac_37 (by omega) rfl rfl ?_
    refine z_iload_n d_Mac_holds_15 rfl ?_
    refine z_callV1 d_Mac_holds_16 g_Mac_125 (c_Val_has X 0 zVal22 (show zin (nI b) b 16 from ⟨rfl, hb, by decide⟩) J G (by rw [show J (22 + 2) b = 1 from hvb]; decide)) (by omega) rfl rfl rfl ⟨by decide, by decide, by decide, by decide⟩ rfl (Nat.le_of_ble_eq_true rfl) ?_
    refine z_if_ne d_Mac_holds_19 24 (by decide) (fun _ => ?_) (fun h9 => absurd h9 (by rw [show J (22 + 2) b = 1 from hvb]; decide))
    refine z_aload_n d_Mac_holds_24 rfl ?_
    refine z_get d_Mac_holds_25 f_Mac_37 (by omega) rfl rfl ?_
    refine z_iload_n d_Mac_holds_28 rfl ?_
    refine z_callV1 d_Mac_holds_29 g_Mac_163 (c_Val_number X 0 zVal22 (show zin (nI a) a 16 from ⟨rfl, ha, by decide⟩) J G) (by omega) rfl rfl rfl ⟨by decide, by decide, by decide, by decide⟩ rfl (Nat.le_of_ble_eq_true rfl) ?_
    refine z_aload_n d_Mac_holds_32 rfl ?_
    refine z_get d_Mac_holds_33 f_Mac_37 (by omega) rfl rfl ?_
    refine z_iload_n d_Mac_holds_36 rfl ?_
    refine z_callV1 d_Mac_holds_37 g_Mac_163 (c_Val_number X 0 zVal22 (show zin (nI b) b 16 from ⟨rfl, hb, by decide⟩) J G) (by omega) rfl rfl rfl ⟨by decide, by decide, by decide, by decide⟩ rfl (Nat.le_of_ble_eq_true rfl) ?_
    refine z_callS1 d_Mac_holds_40 g_Mac_193 (c_Lng_compare X _ _ J G) rfl ⟨by decide, by decide, by decide, by decide⟩ rfl (Nat.le_of_ble_eq_true rfl) ?_
    refine z_istore (lv' := [(0, _), (1, _), (2, _), (3, _), (4, _)]) d_Mac_holds_43 (by decide) rfl ?_
    refine z_iload_n d_Mac_holds_45 rfl ?_
    refine z_tableIn (off := 45) d_Mac_holds_46 91 (by decide) (by decide) (by decide) (by decide) ?_
    refine z_iload d_Mac_holds_91 rfl ?_
    refine z_if_eq d_Mac_holds_93 100 (by decide) (fun h93 => ?_) (fun h93 => ?_)
    · refine z_iconst (v := 0) d_Mac_holds_100 (by decide) ?_
      exact z_zret d_Mac_holds_101 rfl (by decide) (by decide) (by decide) (by simp only [zcmp]; have hq := lg_cmp_eq (G 23 a) (G 23 b); have hq2 := lg_cmp_ge (G 23 a) (G 23 b); have hq3 := lg_cmp_gt (G 23 a) (G 23 b); have hq4 := lg_cmp_lt (G 23 a) (G 23 b); have hq5 := lg_cmp_le (G 23 a) (G 23 b); simp_all [zb]) rfl
    · refine z_iconst (v := 1) d_Mac_holds_96 (by decide) ?_
      refine z_goto d_Mac_holds_97 101 (by decide) ?_
      exact z_zret d_Mac_holds_101 rfl (by decide) (by decide) (by decide) (by simp only [zcmp]; have hq := lg_cmp_eq (G 23 a) (G 23 b); have hq2 := lg_cmp_ge (G 23 a) (G 23 b); have hq3 := lg_cmp_gt (G 23 a) (G 23 b); have hq4 := lg_cmp_lt (G 23 a) (G 23 b); have hq5 := lg_cmp_le (G 23 a) (G 23 b); simp_all [zb]) rfl
  · refine zC_of (by decide) (Nat.le_of_ble_eq_true rfl) ?_
    refine z_aload_n d_Mac_holds_0 rfl ?_
    refine z_get d_Mac_holds_1 f_Mac_37 (by omega) rfl rfl ?_
    refine z_iload_n d_Mac_holds_4 rfl ?_
    refine z_callV1 d_Mac_holds_5 g_Mac_125 (c_Val_has X 0 zVal22 (show zin (nI a) a 16 from ⟨rfl, ha, by decide⟩) J G (by rw [show J (22 + 2) a = 1 from hva]; decide)) (by omega) rfl rfl rfl ⟨by decide, by decide, by decide, by decide⟩ rfl (Nat.le_of_ble_eq_true rfl) ?_
    refine z_if_eq d_Mac_holds_8 22 (by decide) (fun h9 => absurd h9 (by rw [show J (22 + 2) a = 1 from hva]; decide)) (fun _ => ?_)
    refine z_aload_n d_Mac_holds_11 rfl ?_
    refine z_get d_Mac_holds_12 f_Mac_37 (by omega) rfl rfl ?_
    refine z_iload_n d_Mac_holds_15 rfl ?_
    refine z_callV1 d_Mac_holds_16 g_Mac_125 (c_Val_has X 0 zVal22 (show zin (nI b) b 16 from ⟨rfl, hb, by decide⟩) J G (by rw [show J (22 + 2) b = 1 from hvb]; decide)) (by omega) rfl rfl rfl ⟨by decide, by decide, by decide, by decide⟩ rfl (Nat.le_of_ble_eq_true rfl) ?_
    refine z_if_ne d_Mac_holds_19 24 (by decide) (fun _ => ?_) (fun h9 => absurd h9 (by rw [show J (22 + 2) b = 1 from hvb]; decide))
    refine z_aload_n d_Mac_holds_24 rfl ?_
    refine z_get d_Mac_holds_25 f_Mac_37 (by omega) rfl rfl ?_
    refine z_iload_n d_Mac_holds_28 rfl ?_
    refine z_callV1 d_Mac_holds_29 g_Mac_163 (c_Val_number X 0 zVal22 (show zin (nI a) a 16 from ⟨rfl, ha, by decide⟩) J G) (by omega) rfl rfl rfl ⟨by decide, by decide, by decide, by decide⟩ rfl (Nat.le_of_ble_eq_true rfl) ?_
    refine z_aload_n d_Mac_holds_32 rfl ?_
    refine z_get d_Mac_holds_33 f_Mac_37 (by omega) rfl rfl ?_
    refine z_iload_n d_Mac_holds_36 rfl ?_
    refine z_callV1 d_Mac_holds_37 g_Mac_163 (c_Val_number X 0 zVal22 (show zin (nI b) b 16 from ⟨rfl, hb, by decide⟩) J G) (by omega) rfl rfl rfl ⟨by decide, by decide, by decide, by decide⟩ rfl (Nat.le_of_ble_eq_true rfl) ?_
    refine z_callS1 d_Mac_holds_40 g_Mac_193 (c_Lng_compare X _ _ J G) rfl ⟨by decide, by decide, by decide, by decide⟩ rfl (Nat.le_of_ble_eq_true rfl) ?_
    refine z_istore (lv' := [(0, _), (1, _), (2, _), (3, _), (4, _)]) d_Mac_holds_43 (by decide) rfl ?_
    refine z_iload_n d_Mac_holds_45 rfl ?_
    refine z_tableIn (off := 56) d_Mac_holds_46 102 (by decide) (by decide) (by decide) (by decide) ?_
    refine z_iload d_Mac_holds_102 rfl ?_
    refine z_if_ge d_Mac_holds_104 111 (by decide) (fun h104 => ?_) (fun h104 => ?_)
    · refine z_iconst (v := 0) d_Mac_holds_111 (by decide) ?_
      exact z_zret d_Mac_holds_112 rfl (by decide) (by decide) (by decide) (by simp only [zcmp]; have hq := lg_cmp_lt (G 23 a) (G 23 b); have hq2 := lg_cmp_ge (G 23 a) (G 23 b); have hq3 := lg_cmp_gt (G 23 a) (G 23 b); have hq4 := lg_cmp_lt (G 23 a) (G 23 b); have hq5 := lg_cmp_le (G 23 a) (G 23 b); simp_all [zb]) rfl
    · refine z_iconst (v := 1) d_Mac_holds_107 (by decide) ?_
      refine z_goto d_Mac_holds_108 112 (by decide) ?_
      exact z_zret d_Mac_holds_112 rfl (by decide) (by decide) (by decide) (by simp only [zcmp]; have hq := lg_cmp_lt (G 23 a) (G 23 b); have hq2 := lg_cmp_ge (G 23 a) (G 23 b); have hq3 := lg_cmp_gt (G 23 a) (G 23 b); have hq4 := lg_cmp_lt (G 23 a) (G 23 b); have hq5 := lg_cmp_le (G 23 a) (G 23 b); simp_all [zb]) rfl
  · refine zC_of (by decide) (Nat.le_of_ble_eq_true rfl) ?_
    refine z_aload_n d_Mac_holds_0 rfl ?_
    refine z_get d_Mac_holds_1 f_Mac_37 (by omega) rfl rfl ?_
    refine z_iload_n d_Mac_holds_4 rfl ?_
    refine z_callV1 d_Mac_holds_5 g_Mac_125 (c_Val_has X 0 zVal22 (show zin (nI a) a 16 from ⟨rfl, ha, by decide⟩) J G (by rw [show J (22 + 2) a = 1 from hva]; decide)) (by omega) rfl rfl rfl ⟨by decide, by decide, by decide, by decide⟩ rfl (Nat.le_of_ble_eq_true rfl) ?_
    refine z_if_eq d_Mac_holds_8 22 (by decide) (fun h9 => absurd h9 (by rw [show J (22 + 2) a = 1 from hva]; decide)) (fun _ => ?_)
    refine z_aload_n d_Mac_holds_11 rfl ?_
    refine z_get d_Mac_holds_12 f_Mac_37 (by omega) rfl rfl ?_
    refine z_iload_n d_Mac_holds_15 rfl ?_
    refine z_callV1 d_Mac_holds_16 g_Mac_125 (c_Val_has X 0 zVal22 (show zin (nI b) b 16 from ⟨rfl, hb, by decide⟩) J G (by rw [show J (22 + 2) b = 1 from hvb]; decide)) (by omega) rfl rfl rfl ⟨by decide, by decide, by decide, by decide⟩ rfl (Nat.le_of_ble_eq_true rfl) ?_
    refine z_if_ne d_Mac_holds_19 24 (by decide) (fun _ => ?_) (fun h9 => absurd h9 (by rw [show J (22 + 2) b = 1 from hvb]; decide))
    refine z_aload_n d_Mac_holds_24 rfl ?_
    refine z_get d_Mac_holds_25 f_Mac_37 (by omega) rfl rfl ?_
    refine z_iload_n d_Mac_holds_28 rfl ?_
    refine z_callV1 d_Mac_holds_29 g_Mac_163 (c_Val_number X 0 zVal22 (show zin (nI a) a 16 from ⟨rfl, ha, by decide⟩) J G) (by omega) rfl rfl rfl ⟨by decide, by decide, by decide, by decide⟩ rfl (Nat.le_of_ble_eq_true rfl) ?_
    refine z_aload_n d_Mac_holds_32 rfl ?_
    refine z_get d_Mac_holds_33 f_Mac_37 (by omega) rfl rfl ?_
    refine z_iload_n d_Mac_holds_36 rfl ?_
    refine z_callV1 d_Mac_holds_37 g_Mac_163 (c_Val_number X 0 zVal22 (show zin (nI b) b 16 from ⟨rfl, hb, by decide⟩) J G) (by omega) rfl rfl rfl ⟨by decide, by decide, by decide, by decide⟩ rfl (Nat.le_of_ble_eq_true rfl) ?_
    refine z_callS1 d_Mac_holds_40 g_Mac_193 (c_Lng_compare X _ _ J G) rfl ⟨by decide, by decide, by decide, by decide⟩ rfl (Nat.le_of_ble_eq_true rfl) ?_
    refine z_istore (lv' := [(0, _), (1, _), (2, _), (3, _), (4, _)]) d_Mac_holds_43 (by decide) rfl ?_
    refine z_iload_n d_Mac_holds_45 rfl ?_
    refine z_tableIn (off := 67) d_Mac_holds_46 113 (by decide) (by decide) (by decide) (by decide) ?_
    refine z_iload d_Mac_holds_113 rfl ?_
    refine z_if_gt d_Mac_holds_115 122 (by decide) (fun h115 => ?_) (fun h115 => ?_)
    · refine z_iconst (v := 0) d_Mac_holds_122 (by decide) ?_
      exact z_zret d_Mac_holds_123 rfl (by decide) (by decide) (by decide) (by simp only [zcmp]; have hq := lg_cmp_le (G 23 a) (G 23 b); have hq2 := lg_cmp_ge (G 23 a) (G 23 b); have hq3 := lg_cmp_gt (G 23 a) (G 23 b); have hq4 := lg_cmp_lt (G 23 a) (G 23 b); have hq5 := lg_cmp_le (G 23 a) (G 23 b); simp_all [zb]) rfl
    · refine z_iconst (v := 1) d_Mac_holds_118 (by decide) ?_
      refine z_goto d_Mac_holds_119 123 (by decide) ?_
      exact z_zret d_Mac_holds_123 rfl (by decide) (by decide) (by decide) (by simp only [zcmp]; have hq := lg_cmp_le (G 23 a) (G 23 b); have hq2 := lg_cmp_ge (G 23 a) (G 23 b); have hq3 := lg_cmp_gt (G 23 a) (G 23 b); have hq4 := lg_cmp_lt (G 23 a) (G 23 b); have hq5 := lg_cmp_le (G 23 a) (G 23 b); simp_all [zb]) rfl
  · refine zC_of (by decide) (Nat.le_of_ble_eq_true rfl) ?_
    refine z_aload_n d_Mac_holds_0 rfl ?_
    refine z_get d_Mac_holds_1 f_Mac_37 (by omega) rfl rfl ?_
    refine z_iload_n d_Mac_holds_4 rfl ?_
    refine z_callV1 d_Mac_holds_5 g_Mac_125 (c_Val_has X 0 zVal22 (show zin (nI a) a 16 from ⟨rfl, ha, by decide⟩) J G (by rw [show J (22 + 2) a = 1 from hva]; decide)) (by omega) rfl rfl rfl ⟨by decide, by decide, by decide, by decide⟩ rfl (Nat.le_of_ble_eq_true rfl) ?_
    refine z_if_eq d_Mac_holds_8 22 (by decide) (fun h9 => absurd h9 (by rw [show J (22 + 2) a = 1 from hva]; decide)) (fun _ => ?_)
    refine z_aload_n d_Mac_holds_11 rfl ?_
    refine z_get d_Mac_holds_12 f_Mac_37 (by omega) rfl rfl ?_
    refine z_iload_n d_Mac_holds_15 rfl ?_
    refine z_callV1 d_Mac_holds_16 g_Mac_125 (c_Val_has X 0 zVal22 (show zin (nI b) b 16 from ⟨rfl, hb, by decide⟩) J G (by rw [show J (22 + 2) b = 1 from hvb]; decide)) (by omega) rfl rfl rfl ⟨by decide, by decide, by decide, by decide⟩ rfl (Nat.le_of_ble_eq_true rfl) ?_
    refine z_if_ne d_Mac_holds_19 24 (by decide) (fun _ => ?_) (fun h9 => absurd h9 (by rw [show J (22 + 2) b = 1 from hvb]; decide))
    refine z_aload_n d_Mac_holds_24 rfl ?_
    refine z_get d_Mac_holds_25 f_Mac_37 (by omega) rfl rfl ?_
    refine z_iload_n d_Mac_holds_28 rfl ?_
    refine z_callV1 d_Mac_holds_29 g_Mac_163 (c_Val_number X 0 zVal22 (show zin (nI a) a 16 from ⟨rfl, ha, by decide⟩) J G) (by omega) rfl rfl rfl ⟨by decide, by decide, by decide, by decide⟩ rfl (Nat.le_of_ble_eq_true rfl) ?_
    refine z_aload_n d_Mac_holds_32 rfl ?_
    refine z_get d_Mac_holds_33 f_Mac_37 (by omega) rfl rfl ?_
    refine z_iload_n d_Mac_holds_36 rfl ?_
    refine z_callV1 d_Mac_holds_37 g_Mac_163 (c_Val_number X 0 zVal22 (show zin (nI b) b 16 from ⟨rfl, hb, by decide⟩) J G) (by omega) rfl rfl rfl ⟨by decide, by decide, by decide, by decide⟩ rfl (Nat.le_of_ble_eq_true rfl) ?_
    refine z_callS1 d_Mac_holds_40 g_Mac_193 (c_Lng_compare X _ _ J G) rfl ⟨by decide, by decide, by decide, by decide⟩ rfl (Nat.le_of_ble_eq_true rfl) ?_
    refine z_istore (lv' := [(0, _), (1, _), (2, _), (3, _), (4, _)]) d_Mac_holds_43 (by decide) rfl ?_
    refine z_iload_n d_Mac_holds_45 rfl ?_
    refine z_tableIn (off := 78) d_Mac_holds_46 124 (by decide) (by decide) (by decide) (by decide) ?_
    refine z_iload d_Mac_holds_124 rfl ?_
    refine z_if_le d_Mac_holds_126 133 (by decide) (fun h126 => ?_) (fun h126 => ?_)
    · refine z_iconst (v := 0) d_Mac_holds_133 (by decide) ?_
      exact z_zret d_Mac_holds_134 rfl (by decide) (by decide) (by decide) (by simp only [zcmp]; have hq := lg_cmp_gt (G 23 a) (G 23 b); have hq2 := lg_cmp_ge (G 23 a) (G 23 b); have hq3 := lg_cmp_gt (G 23 a) (G 23 b); have hq4 := lg_cmp_lt (G 23 a) (G 23 b); have hq5 := lg_cmp_le (G 23 a) (G 23 b); simp_all [zb]) rfl
    · refine z_iconst (v := 1) d_Mac_holds_129 (by decide) ?_
      refine z_goto d_Mac_holds_130 134 (by decide) ?_
      exact z_zret d_Mac_holds_134 rfl (by decide) (by decide) (by decide) (by simp only [zcmp]; have hq := lg_cmp_gt (G 23 a) (G 23 b); have hq2 := lg_cmp_ge (G 23 a) (G 23 b); have hq3 := lg_cmp_gt (G 23 a) (G 23 b); have hq4 := lg_cmp_lt (G 23 a) (G 23 b); have hq5 := lg_cmp_le (G 23 a) (G 23 b); simp_all [zb]) rfl
  · refine zC_of (by decide) (Nat.le_of_ble_eq_true rfl) ?_
    refine z_aload_n d_Mac_holds_0 rfl ?_
    refine z_get d_Mac_holds_1 f_Mac_37 (by omega) rfl rfl ?_
    refine z_iload_n d_Mac_holds_4 rfl ?_
    refine z_callV1 d_Mac_holds_5 g_Mac_125 (c_Val_has X 0 zVal22 (show zin (nI a) a 16 from ⟨rfl, ha, by decide⟩) J G (by rw [show J (22 + 2) a = 1 from hva]; decide)) (by omega) rfl rfl rfl ⟨by decide, by decide, by decide, by decide⟩ rfl (Nat.le_of_ble_eq_true rfl) ?_
    refine z_if_eq d_Mac_holds_8 22 (by decide) (fun h9 => absurd h9 (by rw [show J (22 + 2) a = 1 from hva]; decide)) (fun _ => ?_)
    refine z_aload_n d_Mac_holds_11 rfl ?_
    refine z_get d_Mac_holds_12 f_Mac_37 (by omega) rfl rfl ?_
    refine z_iload_n d_Mac_holds_15 rfl ?_
    refine z_callV1 d_Mac_holds_16 g_Mac_125 (c_Val_has X 0 zVal22 (show zin (nI b) b 16 from ⟨rfl, hb, by decide⟩) J G (by rw [show J (22 + 2) b = 1 from hvb]; decide)) (by omega) rfl rfl rfl ⟨by decide, by decide, by decide, by decide⟩ rfl (Nat.le_of_ble_eq_true rfl) ?_
    refine z_if_ne d_Mac_holds_19 24 (by decide) (fun _ => ?_) (fun h9 => absurd h9 (by rw [show J (22 + 2) b = 1 from hvb]; decide))
    refine z_aload_n d_Mac_holds_24 rfl ?_
    refine z_get d_Mac_holds_25 f_Mac_37 (by omega) rfl rfl ?_
    refine z_iload_n d_Mac_holds_28 rfl ?_
    refine z_callV1 d_Mac_holds_29 g_Mac_163 (c_Val_number X 0 zVal22 (show zin (nI a) a 16 from ⟨rfl, ha, by decide⟩) J G) (by omega) rfl rfl rfl ⟨by decide, by decide, by decide, by decide⟩ rfl (Nat.le_of_ble_eq_true rfl) ?_
    refine z_aload_n d_Mac_holds_32 rfl ?_
    refine z_get d_Mac_holds_33 f_Mac_37 (by omega) rfl rfl ?_
    refine z_iload_n d_Mac_holds_36 rfl ?_
    refine z_callV1 d_Mac_holds_37 g_Mac_163 (c_Val_number X 0 zVal22 (show zin (nI b) b 16 from ⟨rfl, hb, by decide⟩) J G) (by omega) rfl rfl rfl ⟨by decide, by decide, by decide, by decide⟩ rfl (Nat.le_of_ble_eq_true rfl) ?_
    refine z_callS1 d_Mac_holds_40 g_Mac_193 (c_Lng_compare X _ _ J G) rfl ⟨by decide, by decide, by decide, by decide⟩ rfl (Nat.le_of_ble_eq_true rfl) ?_
    refine z_istore (lv' := [(0, _), (1, _), (2, _), (3, _), (4, _)]) d_Mac_holds_43 (by decide) rfl ?_
    refine z_iload_n d_Mac_holds_45 rfl ?_
    refine z_tableOut d_Mac_holds_46 135 (by decide) (by decide) ?_
    refine z_iload d_Mac_holds_135 rfl ?_
    refine z_if_lt d_Mac_holds_137 144 (by decide) (fun h137 => ?_) (fun h137 => ?_)
    · refine z_iconst (v := 0) d_Mac_holds_144 (by decide) ?_
      exact z_zret d_Mac_holds_145 rfl (by decide) (by decide) (by decide) (by simp only [zcmp]; have hq := lg_cmp_ge (G 23 a) (G 23 b); have hq2 := lg_cmp_ge (G 23 a) (G 23 b); have hq3 := lg_cmp_gt (G 23 a) (G 23 b); have hq4 := lg_cmp_lt (G 23 a) (G 23 b); have hq5 := lg_cmp_le (G 23 a) (G 23 b); simp_all [zb]) rfl
    · refine z_iconst (v := 1) d_Mac_holds_140 (by decide) ?_
      refine z_goto d_Mac_holds_141 145 (by decide) ?_
      exact z_zret d_Mac_holds_145 rfl (by decide) (by decide) (by decide) (by simp only [zcmp]; have hq := lg_cmp_ge (G 23 a) (G 23 b); have hq2 := lg_cmp_ge (G 23 a) (G 23 b); have hq3 := lg_cmp_gt (G 23 a) (G 23 b); have hq4 := lg_cmp_lt (G 23 a) (G 23 b); have hq5 := lg_cmp_le (G 23 a) (G 23 b); simp_all [zb]) rfl
end
section
set_option maxRecDepth 100000 in
set_option maxHeartbeats 4000000 in
theorem c_Mac_bringRow0 (X : zX) {c : Nat} (hc : c < 3) (J : zJT) (G : zGT) {i : Nat} (hi : i < 16) (hvi : J 24 i = 0) : zK X 2 m_Mac_bringRow [.ref 1, .ref (26 + c), .int (nI i)] J G (some (.int (zb false))) J G := by
  refine zC_of (by decide) (Nat.le_of_ble_eq_true rfl) ?_
  refine z_aload_n d_Mac_bringRow_0 rfl ?_
  refine z_get d_Mac_bringRow_1 f_Mac_37 (by omega) rfl rfl ?_
  refine z_iload_n d_Mac_bringRow_4 rfl ?_
  refine z_callV1 d_Mac_bringRow_5 g_Mac_125 (c_Val_has X 0 zVal22 (show zin (nI i) i 16 from ⟨rfl, hi, by decide⟩) J G (by rw [show J (22 + 2) i = 0 from hvi]; decide)) (by omega) rfl rfl rfl ⟨by decide, by decide, by decide, by decide⟩ rfl (Nat.le_of_ble_eq_true rfl) ?_
  refine z_if_eq d_Mac_bringRow_8 44 (by decide) (fun _ => ?_) (fun h9 => absurd hvi h9)
  refine z_iconst (v := 0) d_Mac_bringRow_44 (by decide) ?_
  exact z_zret d_Mac_bringRow_45 rfl (by decide) (by decide) (by decide) rfl rfl
set_option maxRecDepth 100000 in
set_option maxHeartbeats 4000000 in
theorem c_Mac_bringRow1 (X : zX) {c t : Nat} (hc : c < 3) (J : zJT) (G : zGT) (ht : J (26 + c) 0 = nI t) {i : Nat} (hi : i < 16) (hvi : J 24 i = 1) (b : Bool) {J' : zJT} {G' : zGT} (hm : zK X 1 m_Sto_bring [.ref 2, .int (nI t), .long (G 23 i), .ref 22, .int (nI (i + 1))] J G (some (.int (zb b))) J' G') : zK X 2 m_Mac_bringRow [.ref 1, .ref (26 + c), .int (nI i)] J G (some (.int (zb b))) J' G' := by
  refine zC_of (by decide) (Nat.le_of_ble_eq_true rfl) ?_
  refine z_aload_n d_Mac_bringRow_0 rfl ?_
  refine z_get d_Mac_bringRow_1 f_Mac_37 (by omega) rfl rfl ?_
  refine z_iload_n d_Mac_bringRow_4 rfl ?_
  refine z_callV1 d_Mac_bringRow_5 g_Mac_125 (c_Val_has X 0 zVal22 (show zin (nI i) i 16 from ⟨rfl, hi, by decide⟩) J G (by rw [show J (22 + 2) i = 1 from hvi]; decide)) (by omega) rfl rfl rfl ⟨by decide, by decide, by decide, by decide⟩ rfl (Nat.le_of_ble_eq_true rfl) ?_
  refine z_if_eq d_Mac_bringRow_8 44 (by decide) (fun h9 => absurd h9 (by rw [show J (22 + 2) i = 1 from hvi]; decide)) (fun _ => ?_)
  refine z_aload_n d_Mac_bringRow_11 rfl ?_
  refine z_get d_Mac_bringRow_12 f_Mac_12 (by omega) rfl rfl ?_
  refine z_aload_n d_Mac_bringRow_15 rfl ?_
  refine z_get d_Mac_bringRow_16 f_Mac_140 (by omega) (zc_c hc _ _) rfl ?_
  refine z_aload_n d_Mac_bringRow_19 rfl ?_
  refine z_get d_Mac_bringRow_20 f_Mac_37 (by omega) rfl rfl ?_
  refine z_iload_n d_Mac_bringRow_23 rfl ?_
  refine z_callV1 d_Mac_bringRow_24 g_Mac_163 (c_Val_number X 0 zVal22 (show zin (nI i) i 16 from ⟨rfl, hi, by decide⟩) J G) (by omega) rfl rfl rfl ⟨by decide, by decide, by decide, by decide⟩ rfl (Nat.le_of_ble_eq_true rfl) ?_
  refine z_aload_n d_Mac_bringRow_27 rfl ?_
  refine z_get d_Mac_bringRow_28 f_Mac_37 (by omega) rfl rfl ?_
  refine z_iload_n d_Mac_bringRow_31 rfl ?_
  refine z_iconst (v := 1) d_Mac_bringRow_32 (by decide) ?_
  refine z_iadd d_Mac_bringRow_33 ?_
  rw [ht, nI_1]
  refine z_callV1 d_Mac_bringRow_34 g_Mac_185 (hm) (by omega) rfl rfl rfl ⟨by decide, by decide, by decide, by decide⟩ rfl (Nat.le_of_ble_eq_true rfl) ?_
  refine z_if_eq d_Mac_bringRow_37 44 (by decide) (fun h37 => ?_) (fun h37 => ?_)
  · refine z_iconst (v := 0) d_Mac_bringRow_44 (by decide) ?_
    exact z_zret d_Mac_bringRow_45 rfl (by decide) (by decide) (by decide) (by first | (rw [zb0 h37]; done) | (rw [zb0 h37]; rfl) | (rw [zb1' h37]; rfl)) rfl
  · refine z_iconst (v := 1) d_Mac_bringRow_40 (by decide) ?_
    refine z_goto d_Mac_bringRow_41 45 (by decide) ?_
    exact z_zret d_Mac_bringRow_45 rfl (by decide) (by decide) (by decide) (by first | (rw [zb0 h37]; done) | (rw [zb0 h37]; rfl) | (rw [zb1' h37]; rfl)) rfl
set_option maxRecDepth 100000 in
set_option maxHeartbeats 4000000 in
theorem c_Mac_dropRow0 (X : zX) {c : Nat} (hc : c < 3) (J : zJT) (G : zGT) (hk : J (26 + c) 1 = 0) : zK X 2 m_Mac_dropRow [.ref 1, .ref (26 + c)] J G none J G := by
  refine zC_of (by decide) (Nat.le_of_ble_eq_true rfl) ?_
  refine z_aload_n d_Mac_dropRow_0 rfl ?_
  refine z_get d_Mac_dropRow_1 f_Mac_147 (by omega) (zc_c hc _ _) rfl ?_
  refine z_if_eq d_Mac_dropRow_4 23 (by decide) (fun _ => ?_) (fun h9 => absurd hk h9)
  exact z_vret d_Mac_dropRow_23 rfl (by decide) (by decide) rfl
set_option maxRecDepth 100000 in
set_option maxHeartbeats 4000000 in
theorem c_Mac_dropRow1 (X : zX) {c t : Nat} (hc : c < 3) (J : zJT) (G : zGT) (ht : J (26 + c) 0 = nI t) (hk : J (26 + c) 1 = 1) (v : Int32) {J' : zJT} {G' : zGT} (hm : zK X 1 m_Sto_drop [.ref 2, .int (nI t), .long (G (26 + c) 2)] J G (some (.int v)) J' G') : zK X 2 m_Mac_dropRow [.ref 1, .ref (26 + c)] J G none J' G' := by
  refine zC_of (by decide) (Nat.le_of_ble_eq_true rfl) ?_
  refine z_aload_n d_Mac_dropRow_0 rfl ?_
  refine z_get d_Mac_dropRow_1 f_Mac_147 (by omega) (zc_c hc _ _) rfl ?_
  refine z_if_eq d_Mac_dropRow_4 23 (by decide) (fun h9 => absurd h9 (by rw [hk]; decide)) (fun _ => ?_)
  refine z_aload_n d_Mac_dropRow_7 rfl ?_
  refine z_get d_Mac_dropRow_8 f_Mac_12 (by omega) rfl rfl ?_
  refine z_aload_n d_Mac_dropRow_11 rfl ?_
  refine z_get d_Mac_dropRow_12 f_Mac_140 (by omega) (zc_c hc _ _) rfl ?_
  refine z_aload_n d_Mac_dropRow_15 rfl ?_
  refine z_get d_Mac_dropRow_16 f_Mac_155 (by omega) (zc_c hc _ _) rfl ?_
  rw [ht]
  refine z_callV1 d_Mac_dropRow_19 g_Mac_189 (hm) (by omega) rfl rfl rfl ⟨by decide, by decide, by decide, by decide⟩ rfl (Nat.le_of_ble_eq_true rfl) ?_
  refine z_pop d_Mac_dropRow_22 rfl ?_
  exact z_vret d_Mac_dropRow_23 rfl (by decide) (by decide) rfl
set_option maxRecDepth 100000 in
set_option maxHeartbeats 4000000 in
theorem c_use_shut (X : zX) {c k : Nat} (hc : c < 3) (hk : k < 60) (J : zJT) (G : zGT) (hp1 : J 16 (4 * k + 1) = nI c) (o : Int32) (hop : J (26 + c) 0 = -1) : zK X 4 m_Mac_useCursor [.ref 1, .int o, .int (nI k)] J G (some (.int (J 15 0))) (va_up J 1 (va_up (J 1) 5 3)) G := by
  refine zC_of (by decide) (Nat.le_of_ble_eq_true rfl) ?_
  refine z_aload_n d_Mac_useCursor_0 rfl ?_
  refine z_get d_Mac_useCursor_1 f_Mac_43 (by omega) rfl rfl ?_
  refine z_aload_n d_Mac_useCursor_4 rfl ?_
  refine z_get d_Mac_useCursor_5 f_Mac_21 (by omega) rfl rfl ?_
  refine z_iload_n d_Mac_useCursor_8 rfl ?_
  refine z_iconst (v := 1) d_Mac_useCursor_9 (by decide) ?_
  refine z_callV1 d_Mac_useCursor_10 g_Mac_58 (c_Pro_word (w := 1) X hk (by decide) J G) (by omega) rfl rfl rfl ⟨by decide, by decide, by decide, by decide⟩ rfl (Nat.le_of_ble_eq_true rfl) ?_
  rw [hp1]
  refine z_aald d_Mac_useCursor_13 (by omega) rfl rfl (show zin (nI c) c 3 from ⟨rfl, hc, by decide⟩) (zc_at hc) ?_
  refine z_astore_n (lv' := [(0, _), (1, _), (2, _), (3, _)]) d_Mac_useCursor_14 (by decide) rfl ?_
  refine z_aload_n d_Mac_useCursor_15 rfl ?_
  refine z_callV1 d_Mac_useCursor_16 g_Mac_81 (c_Cur_isShut X hc J G) (by omega) (zc_c hc _ _) rfl rfl ⟨by decide, by decide, by decide, by decide⟩ rfl (Nat.le_of_ble_eq_true rfl) ?_
  refine z_if_eq d_Mac_useCursor_19 28 (by decide) (fun h9 => absurd h9 (by rw [decide_eq_true hop]; decide)) (fun _ => ?_)
  refine z_aload_n d_Mac_useCursor_22 rfl ?_
  refine z_iconst (v := 3) d_Mac_useCursor_23 (by decide) ?_
  refine z_callV1 d_Mac_useCursor_24 g_Mac_85 (c_Mac_end X 3 J G) (by omega) rfl rfl rfl ⟨by decide, by decide, by decide, by decide⟩ rfl (Nat.le_of_ble_eq_true rfl) ?_
  exact z_iret d_Mac_useCursor_27 rfl (by decide) (by decide) rfl rfl
set_option maxRecDepth 100000 in
set_option maxHeartbeats 4000000 in
theorem c_use_rewind (X : zX) {c k : Nat} (hc : c < 3) (hk : k < 60) (J : zJT) (G : zGT) (hp1 : J 16 (4 * k + 1) = nI c) (hop : ¬ J (26 + c) 0 = -1) (b : Bool) {J' : zJT} {G' : zGT} (hm : zK X 1 m_Mac_moveTo [.ref 1, .ref (26 + c), .int 0] J G (some (.int (zb b))) J' G') : zK X 4 m_Mac_useCursor [.ref 1, .int (nI 2), .int (nI k)] J G (some (.int (if b then nI k + 1 else (J 16 (4 * k + 2))))) J' G' := by
  refine zC_of (by decide) (Nat.le_of_ble_eq_true rfl) ?_
  refine z_aload_n d_Mac_useCursor_0 rfl ?_
  refine z_get d_Mac_useCursor_1 f_Mac_43 (by omega) rfl rfl ?_
  refine z_aload_n d_Mac_useCursor_4 rfl ?_
  refine z_get d_Mac_useCursor_5 f_Mac_21 (by omega) rfl rfl ?_
  refine z_iload_n d_Mac_useCursor_8 rfl ?_
  refine z_iconst (v := 1) d_Mac_useCursor_9 (by decide) ?_
  refine z_callV1 d_Mac_useCursor_10 g_Mac_58 (c_Pro_word (w := 1) X hk (by decide) J G) (by omega) rfl rfl rfl ⟨by decide, by decide, by decide, by decide⟩ rfl (Nat.le_of_ble_eq_true rfl) ?_
  rw [hp1]
  refine z_aald d_Mac_useCursor_13 (by omega) rfl rfl (show zin (nI c) c 3 from ⟨rfl, hc, by decide⟩) (zc_at hc) ?_
  refine z_astore_n (lv' := [(0, _), (1, _), (2, _), (3, _)]) d_Mac_useCursor_14 (by decide) rfl ?_
  refine z_aload_n d_Mac_useCursor_15 rfl ?_
  refine z_callV1 d_Mac_useCursor_16 g_Mac_81 (c_Cur_isShut X hc J G) (by omega) (zc_c hc _ _) rfl rfl ⟨by decide, by decide, by decide, by decide⟩ rfl (Nat.le_of_ble_eq_true rfl) ?_
  refine z_if_eq d_Mac_useCursor_19 28 (by decide) (fun _ => ?_) (fun h9 => absurd (by rw [decide_eq_false hop]; rfl) h9)
  refine z_aload_n d_Mac_useCursor_28 rfl ?_
  refine z_get d_Mac_useCursor_29 f_Mac_21 (by omega) rfl rfl ?_
  refine z_iload_n d_Mac_useCursor_32 rfl ?_
  refine z_iconst (v := 2) d_Mac_useCursor_33 (by decide) ?_
  refine z_callV1 d_Mac_useCursor_34 g_Mac_58 (c_Pro_word (w := 2) X hk (by decide) J G) (by omega) rfl rfl rfl ⟨by decide, by decide, by decide, by decide⟩ rfl (Nat.le_of_ble_eq_true rfl) ?_
  refine z_istore (lv' := [(0, _), (1, _), (2, _), (3, _), (4, _)]) d_Mac_useCursor_37 (by decide) rfl ?_
  refine z_aload_n d_Mac_useCursor_39 rfl ?_
  refine z_get d_Mac_useCursor_40 f_Mac_21 (by omega) rfl rfl ?_
  refine z_iload_n d_Mac_useCursor_43 rfl ?_
  refine z_iconst (v := 3) d_Mac_useCursor_44 (by decide) ?_
  refine z_callV1 d_Mac_useCursor_45 g_Mac_58 (c_Pro_word (w := 3) X hk (by decide) J G) (by omega) rfl rfl rfl ⟨by decide, by decide, by decide, by decide⟩ rfl (Nat.le_of_ble_eq_true rfl) ?_
  refine z_istore (lv' := [(0, _), (1, _), (2, _), (3, _), (4, _), (5, _)]) d_Mac_useCursor_48 (by decide) rfl ?_
  refine z_iload_n d_Mac_useCursor_50 rfl ?_
  refine z_iconst (v := 1) d_Mac_useCursor_51 (by decide) ?_
  refine z_iadd d_Mac_useCursor_52 ?_
  refine z_istore (lv' := [(0, _), (1, _), (2, _), (3, _), (4, _), (5, _), (6, _)]) d_Mac_useCursor_53 (by decide) rfl ?_
  refine z_iload_n d_Mac_useCursor_55 rfl ?_
  refine z_tableIn (off := 92) d_Mac_useCursor_56 148 (by decide) (by decide) (by decide) (by decide) ?_
  refine z_aload_n d_Mac_useCursor_148 rfl ?_
  refine z_aload_n d_Mac_useCursor_149 rfl ?_
  refine z_iconst (v := 0) d_Mac_useCursor_150 (by decide) ?_
  refine z_callV1 d_Mac_useCursor_151 g_Mac_89 (hm) (by omega) rfl rfl rfl ⟨by decide, by decide, by decide, by decide⟩ rfl (Nat.le_of_ble_eq_true rfl) ?_
  refine z_if_eq d_Mac_useCursor_154 162 (by decide) (fun h154 => ?_) (fun h154 => ?_)
  · refine z_iload d_Mac_useCursor_162 rfl ?_
    exact z_iret d_Mac_useCursor_164 rfl (by decide) (by decide) (by first | (rw [zb0 h154]; rfl) | (rw [zb1' h154]; rfl)) rfl
  · refine z_iload d_Mac_useCursor_157 rfl ?_
    refine z_goto d_Mac_useCursor_159 164 (by decide) ?_
    exact z_iret d_Mac_useCursor_164 rfl (by decide) (by decide) (by first | (rw [zb0 h154]; rfl) | (rw [zb1' h154]; rfl)) rfl
set_option maxRecDepth 100000 in
set_option maxHeartbeats 4000000 in
theorem c_use_next (X : zX) {c k : Nat} (hc : c < 3) (hk : k < 60) (J : zJT) (G : zGT) (hp1 : J 16 (4 * k + 1) = nI c) (hop : ¬ J (26 + c) 0 = -1) (b : Bool) {J' : zJT} {G' : zGT} (hm : zK X 2 m_Mac_advance [.ref 1, .ref (26 + c)] J G (some (.int (zb b))) J' G') : zK X 4 m_Mac_useCursor [.ref 1, .int (nI 3), .int (nI k)] J G (some (.int (if b then (J 16 (4 * k + 2)) else nI k + 1))) J' G' := by
  refine zC_of (by decide) (Nat.le_of_ble_eq_true rfl) ?_
  refine z_aload_n d_Mac_useCursor_0 rfl ?_
  refine z_get d_Mac_useCursor_1 f_Mac_43 (by omega) rfl rfl ?_
  refine z_aload_n d_Mac_useCursor_4 rfl ?_
  refine z_get d_Mac_useCursor_5 f_Mac_21 (by omega) rfl rfl ?_
  refine z_iload_n d_Mac_useCursor_8 rfl ?_
  refine z_iconst (v := 1) d_Mac_useCursor_9 (by decide) ?_
  refine z_callV1 d_Mac_useCursor_10 g_Mac_58 (c_Pro_word (w := 1) X hk (by decide) J G) (by omega) rfl rfl rfl ⟨by decide, by decide, by decide, by decide⟩ rfl (Nat.le_of_ble_eq_true rfl) ?_
  rw [hp1]
  refine z_aald d_Mac_useCursor_13 (by omega) rfl rfl (show zin (nI c) c 3 from ⟨rfl, hc, by decide⟩) (zc_at hc) ?_
  refine z_astore_n (lv' := [(0, _), (1, _), (2, _), (3, _)]) d_Mac_useCursor_14 (by decide) rfl ?_
  refine z_aload_n d_Mac_useCursor_15 rfl ?_
  refine z_callV1 d_Mac_useCursor_16 g_Mac_81 (c_Cur_isShut X hc J G) (by omega) (zc_c hc _ _) rfl rfl ⟨by decide, by decide, by decide, by decide⟩ rfl (Nat.le_of_ble_eq_true rfl) ?_
  refine z_if_eq d_Mac_useCursor_19 28 (by decide) (fun _ => ?_) (fun h9 => absurd (by rw [decide_eq_false hop]; rfl) h9)
  refine z_aload_n d_Mac_useCursor_28 rfl ?_
  refine z_get d_Mac_useCursor_29 f_Mac_21 (by omega) rfl rfl ?_
  refine z_iload_n d_Mac_useCursor_32 rfl ?_
  refine z_iconst (v := 2) d_Mac_useCursor_33 (by decide) ?_
  refine z_callV1 d_Mac_useCursor_34 g_Mac_58 (c_Pro_word (w := 2) X hk (by decide) J G) (by omega) rfl rfl rfl ⟨by decide, by decide, by decide, by decide⟩ rfl (Nat.le_of_ble_eq_true rfl) ?_
  refine z_istore (lv' := [(0, _), (1, _), (2, _), (3, _), (4, _)]) d_Mac_useCursor_37 (by decide) rfl ?_
  refine z_aload_n d_Mac_useCursor_39 rfl ?_
  refine z_get d_Mac_useCursor_40 f_Mac_21 (by omega) rfl rfl ?_
  refine z_iload_n d_Mac_useCursor_43 rfl ?_
  refine z_iconst (v := 3) d_Mac_useCursor_44 (by decide) ?_
  refine z_callV1 d_Mac_useCursor_45 g_Mac_58 (c_Pro_word (w := 3) X hk (by decide) J G) (by omega) rfl rfl rfl ⟨by decide, by decide, by decide, by decide⟩ rfl (Nat.le_of_ble_eq_true rfl) ?_
  refine z_istore (lv' := [(0, _), (1, _), (2, _), (3, _), (4, _), (5, _)]) d_Mac_useCursor_48 (by decide) rfl ?_
  refine z_iload_n d_Mac_useCursor_50 rfl ?_
  refine z_iconst (v := 1) d_Mac_useCursor_51 (by decide) ?_
  refine z_iadd d_Mac_useCursor_52 ?_
  refine z_istore (lv' := [(0, _), (1, _), (2, _), (3, _), (4, _), (5, _), (6, _)]) d_Mac_useCursor_53 (by decide) rfl ?_
  refine z_iload_n d_Mac_useCursor_55 rfl ?_
  refine z_tableIn (off := 109) d_Mac_useCursor_56 165 (by decide) (by decide) (by decide) (by decide) ?_
  refine z_aload_n d_Mac_useCursor_165 rfl ?_
  refine z_aload_n d_Mac_useCursor_166 rfl ?_
  refine z_callV1 d_Mac_useCursor_167 g_Mac_93 (hm) (by omega) rfl rfl rfl ⟨by decide, by decide, by decide, by decide⟩ rfl (Nat.le_of_ble_eq_true rfl) ?_
  refine z_if_eq d_Mac_useCursor_170 178 (by decide) (fun h170 => ?_) (fun h170 => ?_)
  · refine z_iload d_Mac_useCursor_178 rfl ?_
    exact z_iret d_Mac_useCursor_180 rfl (by decide) (by decide) (by first | (rw [zb0 h170]; rfl) | (rw [zb1' h170]; rfl)) rfl
  · refine z_iload d_Mac_useCursor_173 rfl ?_
    refine z_goto d_Mac_useCursor_175 180 (by decide) ?_
    exact z_iret d_Mac_useCursor_180 rfl (by decide) (by decide) (by first | (rw [zb0 h170]; rfl) | (rw [zb1' h170]; rfl)) rfl
set_option maxRecDepth 100000 in
set_option maxHeartbeats 4000000 in
theorem c_use_column (X : zX) {c k : Nat} (hc : c < 3) (hk : k < 60) (J : zJT) (G : zGT) (hp1 : J 16 (4 * k + 1) = nI c) (hop : ¬ J (26 + c) 0 = -1)  {J' : zJT} {G' : zGT} (hm : zK X 3 m_Mac_readColumn [.ref 1, .ref (26 + c), .int (J 16 (4 * k + 2)), .int (J 16 (4 * k + 3))] J G none J' G') : zK X 4 m_Mac_useCursor [.ref 1, .int (nI 4), .int (nI k)] J G (some (.int (nI k + 1))) J' G' := by
  refine zC_of (by decide) (Nat.le_of_ble_eq_true rfl) ?_
  refine z_aload_n d_Mac_useCursor_0 rfl ?_
  refine z_get d_Mac_useCursor_1 f_Mac_43 (by omega) rfl rfl ?_
  refine z_aload_n d_Mac_useCursor_4 rfl ?_
  refine z_get d_Mac_useCursor_5 f_Mac_21 (by omega) rfl rfl ?_
  refine z_iload_n d_Mac_useCursor_8 rfl ?_
  refine z_iconst (v := 1) d_Mac_useCursor_9 (by decide) ?_
  refine z_callV1 d_Mac_useCursor_10 g_Mac_58 (c_Pro_word (w := 1) X hk (by decide) J G) (by omega) rfl rfl rfl ⟨by decide, by decide, by decide, by decide⟩ rfl (Nat.le_of_ble_eq_true rfl) ?_
  rw [hp1]
  refine z_aald d_Mac_useCursor_13 (by omega) rfl rfl (show zin (nI c) c 3 from ⟨rfl, hc, by decide⟩) (zc_at hc) ?_
  refine z_astore_n (lv' := [(0, _), (1, _), (2, _), (3, _)]) d_Mac_useCursor_14 (by decide) rfl ?_
  refine z_aload_n d_Mac_useCursor_15 rfl ?_
  refine z_callV1 d_Mac_useCursor_16 g_Mac_81 (c_Cur_isShut X hc J G) (by omega) (zc_c hc _ _) rfl rfl ⟨by decide, by decide, by decide, by decide⟩ rfl (Nat.le_of_ble_eq_true rfl) ?_
  refine z_if_eq d_Mac_useCursor_19 28 (by decide) (fun _ => ?_) (fun h9 => absurd (by rw [decide_eq_false hop]; rfl) h9)
  refine z_aload_n d_Mac_useCursor_28 rfl ?_
  refine z_get d_Mac_useCursor_29 f_Mac_21 (by omega) rfl rfl ?_
  refine z_iload_n d_Mac_useCursor_32 rfl ?_
  refine z_iconst (v := 2) d_Mac_useCursor_33 (by decide) ?_
  refine z_callV1 d_Mac_useCursor_34 g_Mac_58 (c_Pro_word (w := 2) X hk (by decide) J G) (by omega) rfl rfl rfl ⟨by decide, by decide, by decide, by decide⟩ rfl (Nat.le_of_ble_eq_true rfl) ?_
  refine z_istore (lv' := [(0, _), (1, _), (2, _), (3, _), (4, _)]) d_Mac_useCursor_37 (by decide) rfl ?_
  refine z_aload_n d_Mac_useCursor_39 rfl ?_
  refine z_get d_Mac_useCursor_40 f_Mac_21 (by omega) rfl rfl ?_
  refine z_iload_n d_Mac_useCursor_43 rfl ?_
  refine z_iconst (v := 3) d_Mac_useCursor_44 (by decide) ?_
  refine z_callV1 d_Mac_useCursor_45 g_Mac_58 (c_Pro_word (w := 3) X hk (by decide) J G) (by omega) rfl rfl rfl ⟨by decide, by decide, by decide, by decide⟩ rfl (Nat.le_of_ble_eq_true rfl) ?_
  refine z_istore (lv' := [(0, _), (1, _), (2, _), (3, _), (4, _), (5, _)]) d_Mac_useCursor_48 (by decide) rfl ?_
  refine z_iload_n d_Mac_useCursor_50 rfl ?_
  refine z_iconst (v := 1) d_Mac_useCursor_51 (by decide) ?_
  refine z_iadd d_Mac_useCursor_52 ?_
  refine z_istore (lv' := [(0, _), (1, _), (2, _), (3, _), (4, _), (5, _), (6, _)]) d_Mac_useCursor_53 (by decide) rfl ?_
  refine z_iload_n d_Mac_useCursor_55 rfl ?_
  refine z_tableIn (off := 125) d_Mac_useCursor_56 181 (by decide) (by decide) (by decide) (by decide) ?_
  refine z_aload_n d_Mac_useCursor_181 rfl ?_
  refine z_aload_n d_Mac_useCursor_182 rfl ?_
  refine z_iload d_Mac_useCursor_183 rfl ?_
  refine z_iload d_Mac_useCursor_185 rfl ?_
  refine z_callV0 d_Mac_useCursor_187 g_Mac_97 (hm) (by omega) rfl rfl rfl ⟨by decide, by decide, by decide, by decide⟩ rfl (Nat.le_of_ble_eq_true rfl) ?_
  refine z_iload d_Mac_useCursor_190 rfl ?_
  exact z_iret d_Mac_useCursor_192 rfl (by decide) (by decide) rfl rfl
set_option maxRecDepth 100000 in
set_option maxHeartbeats 4000000 in
theorem c_use_rowid (X : zX) {c k : Nat} (hc : c < 3) (hk : k < 60) (J : zJT) (G : zGT) (hp1 : J 16 (4 * k + 1) = nI c) (hop : ¬ J (26 + c) 0 = -1)  {J' : zJT} {G' : zGT} (hm : zK X 3 m_Mac_readKey [.ref 1, .ref (26 + c), .int (J 16 (4 * k + 2))] J G none J' G') : zK X 4 m_Mac_useCursor [.ref 1, .int (nI 5), .int (nI k)] J G (some (.int (nI k + 1))) J' G' := by
  refine zC_of (by decide) (Nat.le_of_ble_eq_true rfl) ?_
  refine z_aload_n d_Mac_useCursor_0 rfl ?_
  refine z_get d_Mac_useCursor_1 f_Mac_43 (by omega) rfl rfl ?_
  refine z_aload_n d_Mac_useCursor_4 rfl ?_
  refine z_get d_Mac_useCursor_5 f_Mac_21 (by omega) rfl rfl ?_
  refine z_iload_n d_Mac_useCursor_8 rfl ?_
  refine z_iconst (v := 1) d_Mac_useCursor_9 (by decide) ?_
  refine z_callV1 d_Mac_useCursor_10 g_Mac_58 (c_Pro_word (w := 1) X hk (by decide) J G) (by omega) rfl rfl rfl ⟨by decide, by decide, by decide, by decide⟩ rfl (Nat.le_of_ble_eq_true rfl) ?_
  rw [hp1]
  refine z_aald d_Mac_useCursor_13 (by omega) rfl rfl (show zin (nI c) c 3 from ⟨rfl, hc, by decide⟩) (zc_at hc) ?_
  refine z_astore_n (lv' := [(0, _), (1, _), (2, _), (3, _)]) d_Mac_useCursor_14 (by decide) rfl ?_
  refine z_aload_n d_Mac_useCursor_15 rfl ?_
  refine z_callV1 d_Mac_useCursor_16 g_Mac_81 (c_Cur_isShut X hc J G) (by omega) (zc_c hc _ _) rfl rfl ⟨by decide, by decide, by decide, by decide⟩ rfl (Nat.le_of_ble_eq_true rfl) ?_
  refine z_if_eq d_Mac_useCursor_19 28 (by decide) (fun _ => ?_) (fun h9 => absurd (by rw [decide_eq_false hop]; rfl) h9)
  refine z_aload_n d_Mac_useCursor_28 rfl ?_
  refine z_get d_Mac_useCursor_29 f_Mac_21 (by omega) rfl rfl ?_
  refine z_iload_n d_Mac_useCursor_32 rfl ?_
  refine z_iconst (v := 2) d_Mac_useCursor_33 (by decide) ?_
  refine z_callV1 d_Mac_useCursor_34 g_Mac_58 (c_Pro_word (w := 2) X hk (by decide) J G) (by omega) rfl rfl rfl ⟨by decide, by decide, by decide, by decide⟩ rfl (Nat.le_of_ble_eq_true rfl) ?_
  refine z_istore (lv' := [(0, _), (1, _), (2, _), (3, _), (4, _)]) d_Mac_useCursor_37 (by decide) rfl ?_
  refine z_aload_n d_Mac_useCursor_39 rfl ?_
  refine z_get d_Mac_useCursor_40 f_Mac_21 (by omega) rfl rfl ?_
  refine z_iload_n d_Mac_useCursor_43 rfl ?_
  refine z_iconst (v := 3) d_Mac_useCursor_44 (by decide) ?_
  refine z_callV1 d_Mac_useCursor_45 g_Mac_58 (c_Pro_word (w := 3) X hk (by decide) J G) (by omega) rfl rfl rfl ⟨by decide, by decide, by decide, by decide⟩ rfl (Nat.le_of_ble_eq_true rfl) ?_
  refine z_istore (lv' := [(0, _), (1, _), (2, _), (3, _), (4, _), (5, _)]) d_Mac_useCursor_48 (by decide) rfl ?_
  refine z_iload_n d_Mac_useCursor_50 rfl ?_
  refine z_iconst (v := 1) d_Mac_useCursor_51 (by decide) ?_
  refine z_iadd d_Mac_useCursor_52 ?_
  refine z_istore (lv' := [(0, _), (1, _), (2, _), (3, _), (4, _), (5, _), (6, _)]) d_Mac_useCursor_53 (by decide) rfl ?_
  refine z_iload_n d_Mac_useCursor_55 rfl ?_
  refine z_tableIn (off := 137) d_Mac_useCursor_56 193 (by decide) (by decide) (by decide) (by decide) ?_
  refine z_aload_n d_Mac_useCursor_193 rfl ?_
  refine z_aload_n d_Mac_useCursor_194 rfl ?_
  refine z_iload d_Mac_useCursor_195 rfl ?_
  refine z_callV0 d_Mac_useCursor_197 g_Mac_101 (hm) (by omega) rfl rfl rfl ⟨by decide, by decide, by decide, by decide⟩ rfl (Nat.le_of_ble_eq_true rfl) ?_
  refine z_iload d_Mac_useCursor_200 rfl ?_
  exact z_iret d_Mac_useCursor_202 rfl (by decide) (by decide) rfl rfl
set_option maxRecDepth 100000 in
set_option maxHeartbeats 4000000 in
theorem c_use_seek (X : zX) {c k : Nat} (hc : c < 3) (hk : k < 60) (J : zJT) (G : zGT) (hp1 : J 16 (4 * k + 1) = nI c) (hop : ¬ J (26 + c) 0 = -1) (b : Bool) {J' : zJT} {G' : zGT} (hm : zK X 2 m_Mac_seek [.ref 1, .ref (26 + c), .int (J 16 (4 * k + 3))] J G (some (.int (zb b))) J' G') : zK X 4 m_Mac_useCursor [.ref 1, .int (nI 8), .int (nI k)] J G (some (.int (if b then nI k + 1 else (J 16 (4 * k + 2))))) J' G' := by
  refine zC_of (by decide) (Nat.le_of_ble_eq_true rfl) ?_
  refine z_aload_n d_Mac_useCursor_0 rfl ?_
  refine z_get d_Mac_useCursor_1 f_Mac_43 (by omega) rfl rfl ?_
  refine z_aload_n d_Mac_useCursor_4 rfl ?_
  refine z_get d_Mac_useCursor_5 f_Mac_21 (by omega) rfl rfl ?_
  refine z_iload_n d_Mac_useCursor_8 rfl ?_
  refine z_iconst (v := 1) d_Mac_useCursor_9 (by decide) ?_
  refine z_callV1 d_Mac_useCursor_10 g_Mac_58 (c_Pro_word (w := 1) X hk (by decide) J G) (by omega) rfl rfl rfl ⟨by decide, by decide, by decide, by decide⟩ rfl (Nat.le_of_ble_eq_true rfl) ?_
  rw [hp1]
  refine z_aald d_Mac_useCursor_13 (by omega) rfl rfl (show zin (nI c) c 3 from ⟨rfl, hc, by decide⟩) (zc_at hc) ?_
  refine z_astore_n (lv' := [(0, _), (1, _), (2, _), (3, _)]) d_Mac_useCursor_14 (by decide) rfl ?_
  refine z_aload_n d_Mac_useCursor_15 rfl ?_
  refine z_callV1 d_Mac_useCursor_16 g_Mac_81 (c_Cur_isShut X hc J G) (by omega) (zc_c hc _ _) rfl rfl ⟨by decide, by decide, by decide, by decide⟩ rfl (Nat.le_of_ble_eq_true rfl) ?_
  refine z_if_eq d_Mac_useCursor_19 28 (by decide) (fun _ => ?_) (fun h9 => absurd (by rw [decide_eq_false hop]; rfl) h9)
  refine z_aload_n d_Mac_useCursor_28 rfl ?_
  refine z_get d_Mac_useCursor_29 f_Mac_21 (by omega) rfl rfl ?_
  refine z_iload_n d_Mac_useCursor_32 rfl ?_
  refine z_iconst (v := 2) d_Mac_useCursor_33 (by decide) ?_
  refine z_callV1 d_Mac_useCursor_34 g_Mac_58 (c_Pro_word (w := 2) X hk (by decide) J G) (by omega) rfl rfl rfl ⟨by decide, by decide, by decide, by decide⟩ rfl (Nat.le_of_ble_eq_true rfl) ?_
  refine z_istore (lv' := [(0, _), (1, _), (2, _), (3, _), (4, _)]) d_Mac_useCursor_37 (by decide) rfl ?_
  refine z_aload_n d_Mac_useCursor_39 rfl ?_
  refine z_get d_Mac_useCursor_40 f_Mac_21 (by omega) rfl rfl ?_
  refine z_iload_n d_Mac_useCursor_43 rfl ?_
  refine z_iconst (v := 3) d_Mac_useCursor_44 (by decide) ?_
  refine z_callV1 d_Mac_useCursor_45 g_Mac_58 (c_Pro_word (w := 3) X hk (by decide) J G) (by omega) rfl rfl rfl ⟨by decide, by decide, by decide, by decide⟩ rfl (Nat.le_of_ble_eq_true rfl) ?_
  refine z_istore (lv' := [(0, _), (1, _), (2, _), (3, _), (4, _), (5, _)]) d_Mac_useCursor_48 (by decide) rfl ?_
  refine z_iload_n d_Mac_useCursor_50 rfl ?_
  refine z_iconst (v := 1) d_Mac_useCursor_51 (by decide) ?_
  refine z_iadd d_Mac_useCursor_52 ?_
  refine z_istore (lv' := [(0, _), (1, _), (2, _), (3, _), (4, _), (5, _), (6, _)]) d_Mac_useCursor_53 (by decide) rfl ?_
  refine z_iload_n d_Mac_useCursor_55 rfl ?_
  refine z_tableIn (off := 147) d_Mac_useCursor_56 203 (by decide) (by decide) (by decide) (by decide) ?_
  refine z_aload_n d_Mac_useCursor_203 rfl ?_
  refine z_aload_n d_Mac_useCursor_204 rfl ?_
  refine z_iload d_Mac_useCursor_205 rfl ?_
  refine z_callV1 d_Mac_useCursor_207 g_Mac_105 (hm) (by omega) rfl rfl rfl ⟨by decide, by decide, by decide, by decide⟩ rfl (Nat.le_of_ble_eq_true rfl) ?_
  refine z_if_eq d_Mac_useCursor_210 218 (by decide) (fun h210 => ?_) (fun h210 => ?_)
  · refine z_iload d_Mac_useCursor_218 rfl ?_
    exact z_iret d_Mac_useCursor_220 rfl (by decide) (by decide) (by first | (rw [zb0 h210]; rfl) | (rw [zb1' h210]; rfl)) rfl
  · refine z_iload d_Mac_useCursor_213 rfl ?_
    refine z_goto d_Mac_useCursor_215 220 (by decide) ?_
    exact z_iret d_Mac_useCursor_220 rfl (by decide) (by decide) (by first | (rw [zb0 h210]; rfl) | (rw [zb1' h210]; rfl)) rfl
set_option maxRecDepth 100000 in
set_option maxHeartbeats 4000000 in
theorem c_use_insert (X : zX) {c k : Nat} (hc : c < 3) (hk : k < 60) (J : zJT) (G : zGT) (hp1 : J 16 (4 * k + 1) = nI c) (hop : ¬ J (26 + c) 0 = -1) (b : Bool) {J' : zJT} {G' : zGT} (hm : zK X 2 m_Mac_bringRow [.ref 1, .ref (26 + c), .int (J 16 (4 * k + 3))] J G (some (.int (zb b))) J' G') : zK X 4 m_Mac_useCursor [.ref 1, .int (nI 20), .int (nI k)] J G (some (.int (if b then nI k + 1 else (J 16 (4 * k + 2))))) J' G' := by
  refine zC_of (by decide) (Nat.le_of_ble_eq_true rfl) ?_
  refine z_aload_n d_Mac_useCursor_0 rfl ?_
  refine z_get d_Mac_useCursor_1 f_Mac_43 (by omega) rfl rfl ?_
  refine z_aload_n d_Mac_useCursor_4 rfl ?_
  refine z_get d_Mac_useCursor_5 f_Mac_21 (by omega) rfl rfl ?_
  refine z_iload_n d_Mac_useCursor_8 rfl ?_
  refine z_iconst (v := 1) d_Mac_useCursor_9 (by decide) ?_
  refine z_callV1 d_Mac_useCursor_10 g_Mac_58 (c_Pro_word (w := 1) X hk (by decide) J G) (by omega) rfl rfl rfl ⟨by decide, by decide, by decide, by decide⟩ rfl (Nat.le_of_ble_eq_true rfl) ?_
  rw [hp1]
  refine z_aald d_Mac_useCursor_13 (by omega) rfl rfl (show zin (nI c) c 3 from ⟨rfl, hc, by decide⟩) (zc_at hc) ?_
  refine z_astore_n (lv' := [(0, _), (1, _), (2, _), (3, _)]) d_Mac_useCursor_14 (by decide) rfl ?_
  refine z_aload_n d_Mac_useCursor_15 rfl ?_
  refine z_callV1 d_Mac_useCursor_16 g_Mac_81 (c_Cur_isShut X hc J G) (by omega) (zc_c hc _ _) rfl rfl ⟨by decide, by decide, by decide, by decide⟩ rfl (Nat.le_of_ble_eq_true rfl) ?_
  refine z_if_eq d_Mac_useCursor_19 28 (by decide) (fun _ => ?_) (fun h9 => absurd (by rw [decide_eq_false hop]; rfl) h9)
  refine z_aload_n d_Mac_useCursor_28 rfl ?_
  refine z_get d_Mac_useCursor_29 f_Mac_21 (by omega) rfl rfl ?_
  refine z_iload_n d_Mac_useCursor_32 rfl ?_
  refine z_iconst (v := 2) d_Mac_useCursor_33 (by decide) ?_
  refine z_callV1 d_Mac_useCursor_34 g_Mac_58 (c_Pro_word (w := 2) X hk (by decide) J G) (by omega) rfl rfl rfl ⟨by decide, by decide, by decide, by decide⟩ rfl (Nat.le_of_ble_eq_true rfl) ?_
  refine z_istore (lv' := [(0, _), (1, _), (2, _), (3, _), (4, _)]) d_Mac_useCursor_37 (by decide) rfl ?_
  refine z_aload_n d_Mac_useCursor_39 rfl ?_
  refine z_get d_Mac_useCursor_40 f_Mac_21 (by omega) rfl rfl ?_
  refine z_iload_n d_Mac_useCursor_43 rfl ?_
  refine z_iconst (v := 3) d_Mac_useCursor_44 (by decide) ?_
  refine z_callV1 d_Mac_useCursor_45 g_Mac_58 (c_Pro_word (w := 3) X hk (by decide) J G) (by omega) rfl rfl rfl ⟨by decide, by decide, by decide, by decide⟩ rfl (Nat.le_of_ble_eq_true rfl) ?_
  refine z_istore (lv' := [(0, _), (1, _), (2, _), (3, _), (4, _), (5, _)]) d_Mac_useCursor_48 (by decide) rfl ?_
  refine z_iload_n d_Mac_useCursor_50 rfl ?_
  refine z_iconst (v := 1) d_Mac_useCursor_51 (by decide) ?_
  refine z_iadd d_Mac_useCursor_52 ?_
  refine z_istore (lv' := [(0, _), (1, _), (2, _), (3, _), (4, _), (5, _), (6, _)]) d_Mac_useCursor_53 (by decide) rfl ?_
  refine z_iload_n d_Mac_useCursor_55 rfl ?_
  refine z_tableIn (off := 165) d_Mac_useCursor_56 221 (by decide) (by decide) (by decide) (by decide) ?_
  refine z_aload_n d_Mac_useCursor_221 rfl ?_
  refine z_aload_n d_Mac_useCursor_222 rfl ?_
  refine z_iload d_Mac_useCursor_223 rfl ?_
  refine z_callV1 d_Mac_useCursor_225 g_Mac_108 (hm) (by omega) rfl rfl rfl ⟨by decide, by decide, by decide, by decide⟩ rfl (Nat.le_of_ble_eq_true rfl) ?_
  refine z_if_eq d_Mac_useCursor_228 236 (by decide) (fun h228 => ?_) (fun h228 => ?_)
  · refine z_iload d_Mac_useCursor_236 rfl ?_
    exact z_iret d_Mac_useCursor_238 rfl (by decide) (by decide) (by first | (rw [zb0 h228]; rfl) | (rw [zb1' h228]; rfl)) rfl
  · refine z_iload d_Mac_useCursor_231 rfl ?_
    refine z_goto d_Mac_useCursor_233 238 (by decide) ?_
    exact z_iret d_Mac_useCursor_238 rfl (by decide) (by decide) (by first | (rw [zb0 h228]; rfl) | (rw [zb1' h228]; rfl)) rfl
set_option maxRecDepth 100000 in
set_option maxHeartbeats 4000000 in
theorem c_use_delete (X : zX) {c k : Nat} (hc : c < 3) (hk : k < 60) (J : zJT) (G : zGT) (hp1 : J 16 (4 * k + 1) = nI c) (hop : ¬ J (26 + c) 0 = -1)  {J' : zJT} {G' : zGT} (hm : zK X 2 m_Mac_dropRow [.ref 1, .ref (26 + c)] J G none J' G') : zK X 4 m_Mac_useCursor [.ref 1, .int (nI 21), .int (nI k)] J G (some (.int (nI k + 1))) J' G' := by
  refine zC_of (by decide) (Nat.le_of_ble_eq_true rfl) ?_
  refine z_aload_n d_Mac_useCursor_0 rfl ?_
  refine z_get d_Mac_useCursor_1 f_Mac_43 (by omega) rfl rfl ?_
  refine z_aload_n d_Mac_useCursor_4 rfl ?_
  refine z_get d_Mac_useCursor_5 f_Mac_21 (by omega) rfl rfl ?_
  refine z_iload_n d_Mac_useCursor_8 rfl ?_
  refine z_iconst (v := 1) d_Mac_useCursor_9 (by decide) ?_
  refine z_callV1 d_Mac_useCursor_10 g_Mac_58 (c_Pro_word (w := 1) X hk (by decide) J G) (by omega) rfl rfl rfl ⟨by decide, by decide, by decide, by decide⟩ rfl (Nat.le_of_ble_eq_true rfl) ?_
  rw [hp1]
  refine z_aald d_Mac_useCursor_13 (by omega) rfl rfl (show zin (nI c) c 3 from ⟨rfl, hc, by decide⟩) (zc_at hc) ?_
  refine z_astore_n (lv' := [(0, _), (1, _), (2, _), (3, _)]) d_Mac_useCursor_14 (by decide) rfl ?_
  refine z_aload_n d_Mac_useCursor_15 rfl ?_
  refine z_callV1 d_Mac_useCursor_16 g_Mac_81 (c_Cur_isShut X hc J G) (by omega) (zc_c hc _ _) rfl rfl ⟨by decide, by decide, by decide, by decide⟩ rfl (Nat.le_of_ble_eq_true rfl) ?_
  refine z_if_eq d_Mac_useCursor_19 28 (by decide) (fun _ => ?_) (fun h9 => absurd (by rw [decide_eq_false hop]; rfl) h9)
  refine z_aload_n d_Mac_useCursor_28 rfl ?_
  refine z_get d_Mac_useCursor_29 f_Mac_21 (by omega) rfl rfl ?_
  refine z_iload_n d_Mac_useCursor_32 rfl ?_
  refine z_iconst (v := 2) d_Mac_useCursor_33 (by decide) ?_
  refine z_callV1 d_Mac_useCursor_34 g_Mac_58 (c_Pro_word (w := 2) X hk (by decide) J G) (by omega) rfl rfl rfl ⟨by decide, by decide, by decide, by decide⟩ rfl (Nat.le_of_ble_eq_true rfl) ?_
  refine z_istore (lv' := [(0, _), (1, _), (2, _), (3, _), (4, _)]) d_Mac_useCursor_37 (by decide) rfl ?_
  refine z_aload_n d_Mac_useCursor_39 rfl ?_
  refine z_get d_Mac_useCursor_40 f_Mac_21 (by omega) rfl rfl ?_
  refine z_iload_n d_Mac_useCursor_43 rfl ?_
  refine z_iconst (v := 3) d_Mac_useCursor_44 (by decide) ?_
  refine z_callV1 d_Mac_useCursor_45 g_Mac_58 (c_Pro_word (w := 3) X hk (by decide) J G) (by omega) rfl rfl rfl ⟨by decide, by decide, by decide, by decide⟩ rfl (Nat.le_of_ble_eq_true rfl) ?_
  refine z_istore (lv' := [(0, _), (1, _), (2, _), (3, _), (4, _), (5, _)]) d_Mac_useCursor_48 (by decide) rfl ?_
  refine z_iload_n d_Mac_useCursor_50 rfl ?_
  refine z_iconst (v := 1) d_Mac_useCursor_51 (by decide) ?_
  refine z_iadd d_Mac_useCursor_52 ?_
  refine z_istore (lv' := [(0, _), (1, _), (2, _), (3, _), (4, _), (5, _), (6, _)]) d_Mac_useCursor_53 (by decide) rfl ?_
  refine z_iload_n d_Mac_useCursor_55 rfl ?_
  refine z_tableOut d_Mac_useCursor_56 239 (by decide) (by decide) ?_
  refine z_aload_n d_Mac_useCursor_239 rfl ?_
  refine z_aload_n d_Mac_useCursor_240 rfl ?_
  refine z_callV0 d_Mac_useCursor_241 g_Mac_111 (hm) (by omega) rfl rfl rfl ⟨by decide, by decide, by decide, by decide⟩ rfl (Nat.le_of_ble_eq_true rfl) ?_
  refine z_iload d_Mac_useCursor_244 rfl ?_
  exact z_iret d_Mac_useCursor_246 rfl (by decide) (by decide) rfl rfl
set_option maxRecDepth 100000 in
set_option maxHeartbeats 4000000 in
theorem c_com_halt (X : zX) {k : Nat} (hk : k < 60) (J : zJT) (G : zGT)  : zK X 2 m_Mac_compute [.ref 1, .int (nI 0), .int (nI k)] J G (some (.int (J 15 0))) (va_up J 1 (va_up (J 1) 5 0)) G := by
  refine zC_of (by decide) (Nat.le_of_ble_eq_true rfl) ?_
  refine z_aload_n d_Mac_compute_0 rfl ?_
  refine z_get d_Mac_compute_1 f_Mac_21 (by omega) rfl rfl ?_
  refine z_iload_n d_Mac_compute_4 rfl ?_
  refine z_iconst (v := 1) d_Mac_compute_5 (by decide) ?_
  refine z_callV1 d_Mac_compute_6 g_Mac_58 (c_Pro_word (w := 1) X hk (by decide) J G) (by omega) rfl rfl rfl ⟨by decide, by decide, by decide, by decide⟩ rfl (Nat.le_of_ble_eq_true rfl) ?_
  refine z_istore_n (lv' := [(0, _), (1, _), (2, _), (3, _)]) d_Mac_compute_9 (by decide) rfl ?_
  refine z_aload_n d_Mac_compute_10 rfl ?_
  refine z_get d_Mac_compute_11 f_Mac_21 (by omega) rfl rfl ?_
  refine z_iload_n d_Mac_compute_14 rfl ?_
  refine z_iconst (v := 2) d_Mac_compute_15 (by decide) ?_
  refine z_callV1 d_Mac_compute_16 g_Mac_58 (c_Pro_word (w := 2) X hk (by decide) J G) (by omega) rfl rfl rfl ⟨by decide, by decide, by decide, by decide⟩ rfl (Nat.le_of_ble_eq_true rfl) ?_
  refine z_istore (lv' := [(0, _), (1, _), (2, _), (3, _), (4, _)]) d_Mac_compute_19 (by decide) rfl ?_
  refine z_aload_n d_Mac_compute_21 rfl ?_
  refine z_get d_Mac_compute_22 f_Mac_21 (by omega) rfl rfl ?_
  refine z_iload_n d_Mac_compute_25 rfl ?_
  refine z_iconst (v := 3) d_Mac_compute_26 (by decide) ?_
  refine z_callV1 d_Mac_compute_27 g_Mac_58 (c_Pro_word (w := 3) X hk (by decide) J G) (by omega) rfl rfl rfl ⟨by decide, by decide, by decide, by decide⟩ rfl (Nat.le_of_ble_eq_true rfl) ?_
  refine z_istore (lv' := [(0, _), (1, _), (2, _), (3, _), (4, _), (5, _)]) d_Mac_compute_30 (by decide) rfl ?_
  refine z_iload_n d_Mac_compute_32 rfl ?_
  refine z_iconst (v := 1) d_Mac_compute_33 (by decide) ?_
  refine z_iadd d_Mac_compute_34 ?_
  refine z_istore (lv' := [(0, _), (1, _), (2, _), (3, _), (4, _), (5, _), (6, _)]) d_Mac_compute_35 (by decide) rfl ?_
  refine z_iload_n d_Mac_compute_37 rfl ?_
  refine z_tableIn (off := 94) d_Mac_compute_38 132 (by decide) (by decide) (by decide) (by decide) ?_
  refine z_aload_n d_Mac_compute_132 rfl ?_
  refine z_iconst (v := 0) d_Mac_compute_133 (by decide) ?_
  refine z_callV1 d_Mac_compute_134 g_Mac_85 (c_Mac_end X 0 J G) (by omega) rfl rfl rfl ⟨by decide, by decide, by decide, by decide⟩ rfl (Nat.le_of_ble_eq_true rfl) ?_
  exact z_iret d_Mac_compute_137 rfl (by decide) (by decide) rfl rfl
set_option maxRecDepth 100000 in
set_option maxHeartbeats 4000000 in
theorem c_com_open (X : zX) {k : Nat} (hk : k < 60) (J : zJT) (G : zGT) {c : Nat} (hc : c < 3) (hp1 : J 16 (4 * k + 1) = nI c) : zK X 2 m_Mac_compute [.ref 1, .int (nI 1), .int (nI k)] J G (some (.int (nI k + 1))) (va_up J (26 + c) (va_up (va_up (J (26 + c)) 0 (J 16 (4 * k + 2))) 1 0)) G := by
  refine zC_of (by decide) (Nat.le_of_ble_eq_true rfl) ?_
  refine z_aload_n d_Mac_compute_0 rfl ?_
  refine z_get d_Mac_compute_1 f_Mac_21 (by omega) rfl rfl ?_
  refine z_iload_n d_Mac_compute_4 rfl ?_
  refine z_iconst (v := 1) d_Mac_compute_5 (by decide) ?_
  refine z_callV1 d_Mac_compute_6 g_Mac_58 (c_Pro_word (w := 1) X hk (by decide) J G) (by omega) rfl rfl rfl ⟨by decide, by decide, by decide, by decide⟩ rfl (Nat.le_of_ble_eq_true rfl) ?_
  refine z_istore_n (lv' := [(0, _), (1, _), (2, _), (3, _)]) d_Mac_compute_9 (by decide) rfl ?_
  refine z_aload_n d_Mac_compute_10 rfl ?_
  refine z_get d_Mac_compute_11 f_Mac_21 (by omega) rfl rfl ?_
  refine z_iload_n d_Mac_compute_14 rfl ?_
  refine z_iconst (v := 2) d_Mac_compute_15 (by decide) ?_
  refine z_callV1 d_Mac_compute_16 g_Mac_58 (c_Pro_word (w := 2) X hk (by decide) J G) (by omega) rfl rfl rfl ⟨by decide, by decide, by decide, by decide⟩ rfl (Nat.le_of_ble_eq_true rfl) ?_
  refine z_istore (lv' := [(0, _), (1, _), (2, _), (3, _), (4, _)]) d_Mac_compute_19 (by decide) rfl ?_
  refine z_aload_n d_Mac_compute_21 rfl ?_
  refine z_get d_Mac_compute_22 f_Mac_21 (by omega) rfl rfl ?_
  refine z_iload_n d_Mac_compute_25 rfl ?_
  refine z_iconst (v := 3) d_Mac_compute_26 (by decide) ?_
  refine z_callV1 d_Mac_compute_27 g_Mac_58 (c_Pro_word (w := 3) X hk (by decide) J G) (by omega) rfl rfl rfl ⟨by decide, by decide, by decide, by decide⟩ rfl (Nat.le_of_ble_eq_true rfl) ?_
  refine z_istore (lv' := [(0, _), (1, _), (2, _), (3, _), (4, _), (5, _)]) d_Mac_compute_30 (by decide) rfl ?_
  refine z_iload_n d_Mac_compute_32 rfl ?_
  refine z_iconst (v := 1) d_Mac_compute_33 (by decide) ?_
  refine z_iadd d_Mac_compute_34 ?_
  refine z_istore (lv' := [(0, _), (1, _), (2, _), (3, _), (4, _), (5, _), (6, _)]) d_Mac_compute_35 (by decide) rfl ?_
  refine z_iload_n d_Mac_compute_37 rfl ?_
  refine z_tableIn (off := 100) d_Mac_compute_38 138 (by decide) (by decide) (by decide) (by decide) ?_
  refine z_aload_n d_Mac_compute_138 rfl ?_
  refine z_get d_Mac_compute_139 f_Mac_43 (by omega) rfl rfl ?_
  refine z_iload_n d_Mac_compute_142 rfl ?_
  rw [hp1]
  refine z_aald d_Mac_compute_143 (by omega) rfl rfl (show zin (nI c) c 3 from ⟨rfl, hc, by decide⟩) (zc_at hc) ?_
  refine z_iload d_Mac_compute_144 rfl ?_
  refine z_callV0 d_Mac_compute_146 g_Mac_115 (c_Cur_open X hc (J 16 (4 * k + 2)) J G) (by omega) (zc_c hc _ _) rfl rfl ⟨by decide, by decide, by decide, by decide⟩ rfl (Nat.le_of_ble_eq_true rfl) ?_
  refine z_iload d_Mac_compute_149 rfl ?_
  exact z_iret d_Mac_compute_151 rfl (by decide) (by decide) rfl rfl
set_option maxRecDepth 100000 in
set_option maxHeartbeats 4000000 in
theorem c_com_integer (X : zX) {k : Nat} (hk : k < 60) (J : zJT) (G : zGT) {i : Nat} (hi : i < 16) (hq : J 16 (4 * k + 2) = nI i) : zK X 2 m_Mac_compute [.ref 1, .int (nI 6), .int (nI k)] J G (some (.int (nI k + 1))) (va_up J 24 (upd (J 24) i 1)) (va_up G 23 (vp_updL (G 23) i ((J 16 (4 * k + 1))).toInt64)) := by
  refine zC_of (by decide) (Nat.le_of_ble_eq_true rfl) ?_
  refine z_aload_n d_Mac_compute_0 rfl ?_
  refine z_get d_Mac_compute_1 f_Mac_21 (by omega) rfl rfl ?_
  refine z_iload_n d_Mac_compute_4 rfl ?_
  refine z_iconst (v := 1) d_Mac_compute_5 (by decide) ?_
  refine z_callV1 d_Mac_compute_6 g_Mac_58 (c_Pro_word (w := 1) X hk (by decide) J G) (by omega) rfl rfl rfl ⟨by decide, by decide, by decide, by decide⟩ rfl (Nat.le_of_ble_eq_true rfl) ?_
  refine z_istore_n (lv' := [(0, _), (1, _), (2, _), (3, _)]) d_Mac_compute_9 (by decide) rfl ?_
  refine z_aload_n d_Mac_compute_10 rfl ?_
  refine z_get d_Mac_compute_11 f_Mac_21 (by omega) rfl rfl ?_
  refine z_iload_n d_Mac_compute_14 rfl ?_
  refine z_iconst (v := 2) d_Mac_compute_15 (by decide) ?_
  refine z_callV1 d_Mac_compute_16 g_Mac_58 (c_Pro_word (w := 2) X hk (by decide) J G) (by omega) rfl rfl rfl ⟨by decide, by decide, by decide, by decide⟩ rfl (Nat.le_of_ble_eq_true rfl) ?_
  refine z_istore (lv' := [(0, _), (1, _), (2, _), (3, _), (4, _)]) d_Mac_compute_19 (by decide) rfl ?_
  refine z_aload_n d_Mac_compute_21 rfl ?_
  refine z_get d_Mac_compute_22 f_Mac_21 (by omega) rfl rfl ?_
  refine z_iload_n d_Mac_compute_25 rfl ?_
  refine z_iconst (v := 3) d_Mac_compute_26 (by decide) ?_
  refine z_callV1 d_Mac_compute_27 g_Mac_58 (c_Pro_word (w := 3) X hk (by decide) J G) (by omega) rfl rfl rfl ⟨by decide, by decide, by decide, by decide⟩ rfl (Nat.le_of_ble_eq_true rfl) ?_
  refine z_istore (lv' := [(0, _), (1, _), (2, _), (3, _), (4, _), (5, _)]) d_Mac_compute_30 (by decide) rfl ?_
  refine z_iload_n d_Mac_compute_32 rfl ?_
  refine z_iconst (v := 1) d_Mac_compute_33 (by decide) ?_
  refine z_iadd d_Mac_compute_34 ?_
  refine z_istore (lv' := [(0, _), (1, _), (2, _), (3, _), (4, _), (5, _), (6, _)]) d_Mac_compute_35 (by decide) rfl ?_
  refine z_iload_n d_Mac_compute_37 rfl ?_
  refine z_tableIn (off := 114) d_Mac_compute_38 152 (by decide) (by decide) (by decide) (by decide) ?_
  refine z_aload_n d_Mac_compute_152 rfl ?_
  refine z_get d_Mac_compute_153 f_Mac_37 (by omega) rfl rfl ?_
  refine z_iload d_Mac_compute_156 rfl ?_
  refine z_iload_n d_Mac_compute_158 rfl ?_
  refine z_i2l d_Mac_compute_159 ?_
  rw [hq]
  refine z_callV0 d_Mac_compute_160 g_Mac_118 (c_Val_put X 0 zVal22 (show zin (nI i) i 16 from ⟨rfl, hi, by decide⟩) J G _) (by omega) rfl rfl rfl ⟨by decide, by decide, by decide, by decide⟩ rfl (Nat.le_of_ble_eq_true rfl) ?_
  refine z_iload d_Mac_compute_163 rfl ?_
  exact z_iret d_Mac_compute_165 rfl (by decide) (by decide) rfl rfl
set_option maxRecDepth 100000 in
set_option maxHeartbeats 4000000 in
theorem c_com_null (X : zX) {k : Nat} (hk : k < 60) (J : zJT) (G : zGT) {i : Nat} (hi : i < 16) (hp : J 16 (4 * k + 1) = nI i) : zK X 2 m_Mac_compute [.ref 1, .int (nI 7), .int (nI k)] J G (some (.int (nI k + 1))) (va_up J 24 (upd (J 24) i 0)) (va_up G 23 (vp_updL (G 23) i 0)) := by
  refine zC_of (by decide) (Nat.le_of_ble_eq_true rfl) ?_
  refine z_aload_n d_Mac_compute_0 rfl ?_
  refine z_get d_Mac_compute_1 f_Mac_21 (by omega) rfl rfl ?_
  refine z_iload_n d_Mac_compute_4 rfl ?_
  refine z_iconst (v := 1) d_Mac_compute_5 (by decide) ?_
  refine z_callV1 d_Mac_compute_6 g_Mac_58 (c_Pro_word (w := 1) X hk (by decide) J G) (by omega) rfl rfl rfl ⟨by decide, by decide, by decide, by decide⟩ rfl (Nat.le_of_ble_eq_true rfl) ?_
  refine z_istore_n (lv' := [(0, _), (1, _), (2, _), (3, _)]) d_Mac_compute_9 (by decide) rfl ?_
  refine z_aload_n d_Mac_compute_10 rfl ?_
  refine z_get d_Mac_compute_11 f_Mac_21 (by omega) rfl rfl ?_
  refine z_iload_n d_Mac_compute_14 rfl ?_
  refine z_iconst (v := 2) d_Mac_compute_15 (by decide) ?_
  refine z_callV1 d_Mac_compute_16 g_Mac_58 (c_Pro_word (w := 2) X hk (by decide) J G) (by omega) rfl rfl rfl ⟨by decide, by decide, by decide, by decide⟩ rfl (Nat.le_of_ble_eq_true rfl) ?_
  refine z_istore (lv' := [(0, _), (1, _), (2, _), (3, _), (4, _)]) d_Mac_compute_19 (by decide) rfl ?_
  refine z_aload_n d_Mac_compute_21 rfl ?_
  refine z_get d_Mac_compute_22 f_Mac_21 (by omega) rfl rfl ?_
  refine z_iload_n d_Mac_compute_25 rfl ?_
  refine z_iconst (v := 3) d_Mac_compute_26 (by decide) ?_
  refine z_callV1 d_Mac_compute_27 g_Mac_58 (c_Pro_word (w := 3) X hk (by decide) J G) (by omega) rfl rfl rfl ⟨by decide, by decide, by decide, by decide⟩ rfl (Nat.le_of_ble_eq_true rfl) ?_
  refine z_istore (lv' := [(0, _), (1, _), (2, _), (3, _), (4, _), (5, _)]) d_Mac_compute_30 (by decide) rfl ?_
  refine z_iload_n d_Mac_compute_32 rfl ?_
  refine z_iconst (v := 1) d_Mac_compute_33 (by decide) ?_
  refine z_iadd d_Mac_compute_34 ?_
  refine z_istore (lv' := [(0, _), (1, _), (2, _), (3, _), (4, _), (5, _), (6, _)]) d_Mac_compute_35 (by decide) rfl ?_
  refine z_iload_n d_Mac_compute_37 rfl ?_
  refine z_tableIn (off := 128) d_Mac_compute_38 166 (by decide) (by decide) (by decide) (by decide) ?_
  refine z_aload_n d_Mac_compute_166 rfl ?_
  refine z_get d_Mac_compute_167 f_Mac_37 (by omega) rfl rfl ?_
  refine z_iload_n d_Mac_compute_170 rfl ?_
  rw [hp]
  refine z_callV0 d_Mac_compute_171 g_Mac_122 (c_Val_clear X 0 zVal22 (show zin (nI i) i 16 from ⟨rfl, hi, by decide⟩) J G) (by omega) rfl rfl rfl ⟨by decide, by decide, by decide, by decide⟩ rfl (Nat.le_of_ble_eq_true rfl) ?_
  refine z_iload d_Mac_compute_174 rfl ?_
  exact z_iret d_Mac_compute_176 rfl (by decide) (by decide) rfl rfl
set_option maxRecDepth 100000 in
set_option maxHeartbeats 4000000 in
theorem c_com_isnull (X : zX) {k : Nat} (hk : k < 60) (J : zJT) (G : zGT) {i : Nat} (hi : i < 16) (hp : J 16 (4 * k + 1) = nI i) (b : Bool) (hvi : J 24 i = zb b) : zK X 2 m_Mac_compute [.ref 1, .int (nI 15), .int (nI k)] J G (some (.int (if b then nI k + 1 else (J 16 (4 * k + 2))))) J G := by
  refine zC_of (by decide) (Nat.le_of_ble_eq_true rfl) ?_
  refine z_aload_n d_Mac_compute_0 rfl ?_
  refine z_get d_Mac_compute_1 f_Mac_21 (by omega) rfl rfl ?_
  refine z_iload_n d_Mac_compute_4 rfl ?_
  refine z_iconst (v := 1) d_Mac_compute_5 (by decide) ?_
  refine z_callV1 d_Mac_compute_6 g_Mac_58 (c_Pro_word (w := 1) X hk (by decide) J G) (by omega) rfl rfl rfl ⟨by decide, by decide, by decide, by decide⟩ rfl (Nat.le_of_ble_eq_true rfl) ?_
  refine z_istore_n (lv' := [(0, _), (1, _), (2, _), (3, _)]) d_Mac_compute_9 (by decide) rfl ?_
  refine z_aload_n d_Mac_compute_10 rfl ?_
  refine z_get d_Mac_compute_11 f_Mac_21 (by omega) rfl rfl ?_
  refine z_iload_n d_Mac_compute_14 rfl ?_
  refine z_iconst (v := 2) d_Mac_compute_15 (by decide) ?_
  refine z_callV1 d_Mac_compute_16 g_Mac_58 (c_Pro_word (w := 2) X hk (by decide) J G) (by omega) rfl rfl rfl ⟨by decide, by decide, by decide, by decide⟩ rfl (Nat.le_of_ble_eq_true rfl) ?_
  refine z_istore (lv' := [(0, _), (1, _), (2, _), (3, _), (4, _)]) d_Mac_compute_19 (by decide) rfl ?_
  refine z_aload_n d_Mac_compute_21 rfl ?_
  refine z_get d_Mac_compute_22 f_Mac_21 (by omega) rfl rfl ?_
  refine z_iload_n d_Mac_compute_25 rfl ?_
  refine z_iconst (v := 3) d_Mac_compute_26 (by decide) ?_
  refine z_callV1 d_Mac_compute_27 g_Mac_58 (c_Pro_word (w := 3) X hk (by decide) J G) (by omega) rfl rfl rfl ⟨by decide, by decide, by decide, by decide⟩ rfl (Nat.le_of_ble_eq_true rfl) ?_
  refine z_istore (lv' := [(0, _), (1, _), (2, _), (3, _), (4, _), (5, _)]) d_Mac_compute_30 (by decide) rfl ?_
  refine z_iload_n d_Mac_compute_32 rfl ?_
  refine z_iconst (v := 1) d_Mac_compute_33 (by decide) ?_
  refine z_iadd d_Mac_compute_34 ?_
  refine z_istore (lv' := [(0, _), (1, _), (2, _), (3, _), (4, _), (5, _), (6, _)]) d_Mac_compute_35 (by decide) rfl ?_
  refine z_iload_n d_Mac_compute_37 rfl ?_
  refine z_tableIn (off := 139) d_Mac_compute_38 177 (by decide) (by decide) (by decide) (by decide) ?_
  refine z_aload_n d_Mac_compute_177 rfl ?_
  refine z_get d_Mac_compute_178 f_Mac_37 (by omega) rfl rfl ?_
  refine z_iload_n d_Mac_compute_181 rfl ?_
  rw [hp]
  refine z_callV1 d_Mac_compute_182 g_Mac_125 (c_Val_has X 0 zVal22 (show zin (nI i) i 16 from ⟨rfl, hi, by decide⟩) J G (by rw [show J (22 + 2) i = zb b from hvi]; exact zb_n b)) (by omega) rfl rfl rfl ⟨by decide, by decide, by decide, by decide⟩ rfl (Nat.le_of_ble_eq_true rfl) ?_
  refine z_if_eq d_Mac_compute_185 193 (by decide) (fun h185 => ?_) (fun h185 => ?_)
  · refine z_iload d_Mac_compute_193 rfl ?_
    exact z_iret d_Mac_compute_195 rfl (by decide) (by decide) (by rw [show J (22 + 2) i = zb b from hvi] at h185; first | (rw [zb0 h185]; rfl) | (rw [zb1' h185]; rfl)) rfl
  · refine z_iload d_Mac_compute_188 rfl ?_
    refine z_goto d_Mac_compute_190 195 (by decide) ?_
    exact z_iret d_Mac_compute_195 rfl (by decide) (by decide) (by rw [show J (22 + 2) i = zb b from hvi] at h185; first | (rw [zb0 h185]; rfl) | (rw [zb1' h185]; rfl)) rfl
set_option maxRecDepth 100000 in
set_option maxHeartbeats 4000000 in
theorem c_com_notnull (X : zX) {k : Nat} (hk : k < 60) (J : zJT) (G : zGT) {i : Nat} (hi : i < 16) (hp : J 16 (4 * k + 1) = nI i) (b : Bool) (hvi : J 24 i = zb b) : zK X 2 m_Mac_compute [.ref 1, .int (nI 16), .int (nI k)] J G (some (.int (if b then (J 16 (4 * k + 2)) else nI k + 1))) J G := by
  refine zC_of (by decide) (Nat.le_of_ble_eq_true rfl) ?_
  refine z_aload_n d_Mac_compute_0 rfl ?_
  refine z_get d_Mac_compute_1 f_Mac_21 (by omega) rfl rfl ?_
  refine z_iload_n d_Mac_compute_4 rfl ?_
  refine z_iconst (v := 1) d_Mac_compute_5 (by decide) ?_
  refine z_callV1 d_Mac_compute_6 g_Mac_58 (c_Pro_word (w := 1) X hk (by decide) J G) (by omega) rfl rfl rfl ⟨by decide, by decide, by decide, by decide⟩ rfl (Nat.le_of_ble_eq_true rfl) ?_
  refine z_istore_n (lv' := [(0, _), (1, _), (2, _), (3, _)]) d_Mac_compute_9 (by decide) rfl ?_
  refine z_aload_n d_Mac_compute_10 rfl ?_
  refine z_get d_Mac_compute_11 f_Mac_21 (by omega) rfl rfl ?_
  refine z_iload_n d_Mac_compute_14 rfl ?_
  refine z_iconst (v := 2) d_Mac_compute_15 (by decide) ?_
  refine z_callV1 d_Mac_compute_16 g_Mac_58 (c_Pro_word (w := 2) X hk (by decide) J G) (by omega) rfl rfl rfl ⟨by decide, by decide, by decide, by decide⟩ rfl (Nat.le_of_ble_eq_true rfl) ?_
  refine z_istore (lv' := [(0, _), (1, _), (2, _), (3, _), (4, _)]) d_Mac_compute_19 (by decide) rfl ?_
  refine z_aload_n d_Mac_compute_21 rfl ?_
  refine z_get d_Mac_compute_22 f_Mac_21 (by omega) rfl rfl ?_
  refine z_iload_n d_Mac_compute_25 rfl ?_
  refine z_iconst (v := 3) d_Mac_compute_26 (by decide) ?_
  refine z_callV1 d_Mac_compute_27 g_Mac_58 (c_Pro_word (w := 3) X hk (by decide) J G) (by omega) rfl rfl rfl ⟨by decide, by decide, by decide, by decide⟩ rfl (Nat.le_of_ble_eq_true rfl) ?_
  refine z_istore (lv' := [(0, _), (1, _), (2, _), (3, _), (4, _), (5, _)]) d_Mac_compute_30 (by decide) rfl ?_
  refine z_iload_n d_Mac_compute_32 rfl ?_
  refine z_iconst (v := 1) d_Mac_compute_33 (by decide) ?_
  refine z_iadd d_Mac_compute_34 ?_
  refine z_istore (lv' := [(0, _), (1, _), (2, _), (3, _), (4, _), (5, _), (6, _)]) d_Mac_compute_35 (by decide) rfl ?_
  refine z_iload_n d_Mac_compute_37 rfl ?_
  refine z_tableIn (off := 158) d_Mac_compute_38 196 (by decide) (by decide) (by decide) (by decide) ?_
  refine z_aload_n d_Mac_compute_196 rfl ?_
  refine z_get d_Mac_compute_197 f_Mac_37 (by omega) rfl rfl ?_
  refine z_iload_n d_Mac_compute_200 rfl ?_
  rw [hp]
  refine z_callV1 d_Mac_compute_201 g_Mac_125 (c_Val_has X 0 zVal22 (show zin (nI i) i 16 from ⟨rfl, hi, by decide⟩) J G (by rw [show J (22 + 2) i = zb b from hvi]; exact zb_n b)) (by omega) rfl rfl rfl ⟨by decide, by decide, by decide, by decide⟩ rfl (Nat.le_of_ble_eq_true rfl) ?_
  refine z_if_eq d_Mac_compute_204 212 (by decide) (fun h204 => ?_) (fun h204 => ?_)
  · refine z_iload d_Mac_compute_212 rfl ?_
    exact z_iret d_Mac_compute_214 rfl (by decide) (by decide) (by rw [show J (22 + 2) i = zb b from hvi] at h204; first | (rw [zb0 h204]; rfl) | (rw [zb1' h204]; rfl)) rfl
  · refine z_iload d_Mac_compute_207 rfl ?_
    refine z_goto d_Mac_compute_209 214 (by decide) ?_
    exact z_iret d_Mac_compute_214 rfl (by decide) (by decide) (by rw [show J (22 + 2) i = zb b from hvi] at h204; first | (rw [zb0 h204]; rfl) | (rw [zb1' h204]; rfl)) rfl
set_option maxRecDepth 100000 in
set_option maxHeartbeats 4000000 in
theorem c_com_add (X : zX) {k : Nat} (hk : k < 60) (J : zJT) (G : zGT) {J' : zJT} {G' : zGT} (hm : zK X 1 m_Mac_sum [.ref 1, .int (J 16 (4 * k + 1)), .int (J 16 (4 * k + 2)), .int (J 16 (4 * k + 3))] J G none J' G') : zK X 2 m_Mac_compute [.ref 1, .int (nI 17), .int (nI k)] J G (some (.int (nI k + 1))) J' G' := by
  refine zC_of (by decide) (Nat.le_of_ble_eq_true rfl) ?_
  refine z_aload_n d_Mac_compute_0 rfl ?_
  refine z_get d_Mac_compute_1 f_Mac_21 (by omega) rfl rfl ?_
  refine z_iload_n d_Mac_compute_4 rfl ?_
  refine z_iconst (v := 1) d_Mac_compute_5 (by decide) ?_
  refine z_callV1 d_Mac_compute_6 g_Mac_58 (c_Pro_word (w := 1) X hk (by decide) J G) (by omega) rfl rfl rfl ⟨by decide, by decide, by decide, by decide⟩ rfl (Nat.le_of_ble_eq_true rfl) ?_
  refine z_istore_n (lv' := [(0, _), (1, _), (2, _), (3, _)]) d_Mac_compute_9 (by decide) rfl ?_
  refine z_aload_n d_Mac_compute_10 rfl ?_
  refine z_get d_Mac_compute_11 f_Mac_21 (by omega) rfl rfl ?_
  refine z_iload_n d_Mac_compute_14 rfl ?_
  refine z_iconst (v := 2) d_Mac_compute_15 (by decide) ?_
  refine z_callV1 d_Mac_compute_16 g_Mac_58 (c_Pro_word (w := 2) X hk (by decide) J G) (by omega) rfl rfl rfl ⟨by decide, by decide, by decide, by decide⟩ rfl (Nat.le_of_ble_eq_true rfl) ?_
  refine z_istore (lv' := [(0, _), (1, _), (2, _), (3, _), (4, _)]) d_Mac_compute_19 (by decide) rfl ?_
  refine z_aload_n d_Mac_compute_21 rfl ?_
  refine z_get d_Mac_compute_22 f_Mac_21 (by omega) rfl rfl ?_
  refine z_iload_n d_Mac_compute_25 rfl ?_
  refine z_iconst (v := 3) d_Mac_compute_26 (by decide) ?_
  refine z_callV1 d_Mac_compute_27 g_Mac_58 (c_Pro_word (w := 3) X hk (by decide) J G) (by omega) rfl rfl rfl ⟨by decide, by decide, by decide, by decide⟩ rfl (Nat.le_of_ble_eq_true rfl) ?_
  refine z_istore (lv' := [(0, _), (1, _), (2, _), (3, _), (4, _), (5, _)]) d_Mac_compute_30 (by decide) rfl ?_
  refine z_iload_n d_Mac_compute_32 rfl ?_
  refine z_iconst (v := 1) d_Mac_compute_33 (by decide) ?_
  refine z_iadd d_Mac_compute_34 ?_
  refine z_istore (lv' := [(0, _), (1, _), (2, _), (3, _), (4, _), (5, _), (6, _)]) d_Mac_compute_35 (by decide) rfl ?_
  refine z_iload_n d_Mac_compute_37 rfl ?_
  refine z_tableIn (off := 177) d_Mac_compute_38 215 (by decide) (by decide) (by decide) (by decide) ?_
  refine z_aload_n d_Mac_compute_215 rfl ?_
  refine z_iload_n d_Mac_compute_216 rfl ?_
  refine z_iload d_Mac_compute_217 rfl ?_
  refine z_iload d_Mac_compute_219 rfl ?_
  refine z_callV0 d_Mac_compute_221 g_Mac_128 (hm) (by omega) rfl rfl rfl ⟨by decide, by decide, by decide, by decide⟩ rfl (Nat.le_of_ble_eq_true rfl) ?_
  refine z_iload d_Mac_compute_224 rfl ?_
  exact z_iret d_Mac_compute_226 rfl (by decide) (by decide) rfl rfl
set_option maxRecDepth 100000 in
set_option maxHeartbeats 4000000 in
theorem c_com_result1 (X : zX) {k : Nat} (hk : k < 60) (J : zJT) (G : zGT) {J' : zJT} {G' : zGT} (hm : zK X 1 m_Res_take [.ref 17, .ref 22, .int (J 16 (4 * k + 1)), .int (J 16 (4 * k + 2))] J G (some (.int (zb true))) J' G') : zK X 2 m_Mac_compute [.ref 1, .int (nI 18), .int (nI k)] J G (some (.int (nI k + 1))) J' G' := by
  refine zC_of (by decide) (Nat.le_of_ble_eq_true rfl) ?_
  refine z_aload_n d_Mac_compute_0 rfl ?_
  refine z_get d_Mac_compute_1 f_Mac_21 (by omega) rfl rfl ?_
  refine z_iload_n d_Mac_compute_4 rfl ?_
  refine z_iconst (v := 1) d_Mac_compute_5 (by decide) ?_
  refine z_callV1 d_Mac_compute_6 g_Mac_58 (c_Pro_word (w := 1) X hk (by decide) J G) (by omega) rfl rfl rfl ⟨by decide, by decide, by decide, by decide⟩ rfl (Nat.le_of_ble_eq_true rfl) ?_
  refine z_istore_n (lv' := [(0, _), (1, _), (2, _), (3, _)]) d_Mac_compute_9 (by decide) rfl ?_
  refine z_aload_n d_Mac_compute_10 rfl ?_
  refine z_get d_Mac_compute_11 f_Mac_21 (by omega) rfl rfl ?_
  refine z_iload_n d_Mac_compute_14 rfl ?_
  refine z_iconst (v := 2) d_Mac_compute_15 (by decide) ?_
  refine z_callV1 d_Mac_compute_16 g_Mac_58 (c_Pro_word (w := 2) X hk (by decide) J G) (by omega) rfl rfl rfl ⟨by decide, by decide, by decide, by decide⟩ rfl (Nat.le_of_ble_eq_true rfl) ?_
  refine z_istore (lv' := [(0, _), (1, _), (2, _), (3, _), (4, _)]) d_Mac_compute_19 (by decide) rfl ?_
  refine z_aload_n d_Mac_compute_21 rfl ?_
  refine z_get d_Mac_compute_22 f_Mac_21 (by omega) rfl rfl ?_
  refine z_iload_n d_Mac_compute_25 rfl ?_
  refine z_iconst (v := 3) d_Mac_compute_26 (by decide) ?_
  refine z_callV1 d_Mac_compute_27 g_Mac_58 (c_Pro_word (w := 3) X hk (by decide) J G) (by omega) rfl rfl rfl ⟨by decide, by decide, by decide, by decide⟩ rfl (Nat.le_of_ble_eq_true rfl) ?_
  refine z_istore (lv' := [(0, _), (1, _), (2, _), (3, _), (4, _), (5, _)]) d_Mac_compute_30 (by decide) rfl ?_
  refine z_iload_n d_Mac_compute_32 rfl ?_
  refine z_iconst (v := 1) d_Mac_compute_33 (by decide) ?_
  refine z_iadd d_Mac_compute_34 ?_
  refine z_istore (lv' := [(0, _), (1, _), (2, _), (3, _), (4, _), (5, _), (6, _)]) d_Mac_compute_35 (by decide) rfl ?_
  refine z_iload_n d_Mac_compute_37 rfl ?_
  refine z_tableIn (off := 189) d_Mac_compute_38 227 (by decide) (by decide) (by decide) (by decide) ?_
  refine z_aload_n d_Mac_compute_227 rfl ?_
  refine z_get d_Mac_compute_228 f_Mac_28 (by omega) rfl rfl ?_
  refine z_aload_n d_Mac_compute_231 rfl ?_
  refine z_get d_Mac_compute_232 f_Mac_37 (by omega) rfl rfl ?_
  refine z_iload_n d_Mac_compute_235 rfl ?_
  refine z_iload d_Mac_compute_236 rfl ?_
  refine z_callV1 d_Mac_compute_238 g_Mac_132 (hm) (by omega) rfl rfl rfl ⟨by decide, by decide, by decide, by decide⟩ rfl (Nat.le_of_ble_eq_true rfl) ?_
  refine z_if_eq d_Mac_compute_241 249 (by decide) (fun h9 => absurd h9 (by decide)) (fun _ => ?_)
  refine z_iload d_Mac_compute_244 rfl ?_
  refine z_goto d_Mac_compute_246 254 (by decide) ?_
  exact z_iret d_Mac_compute_254 rfl (by decide) (by decide) rfl rfl
set_option maxRecDepth 100000 in
set_option maxHeartbeats 4000000 in
theorem c_com_result0 (X : zX) {k : Nat} (hk : k < 60) (J : zJT) (G : zGT) (hm : zK X 1 m_Res_take [.ref 17, .ref 22, .int (J 16 (4 * k + 1)), .int (J 16 (4 * k + 2))] J G (some (.int (zb false))) J G) : zK X 2 m_Mac_compute [.ref 1, .int (nI 18), .int (nI k)] J G (some (.int (J 15 0))) (va_up J 1 (va_up (J 1) 5 2)) G := by
  refine zC_of (by decide) (Nat.le_of_ble_eq_true rfl) ?_
  refine z_aload_n d_Mac_compute_0 rfl ?_
  refine z_get d_Mac_compute_1 f_Mac_21 (by omega) rfl rfl ?_
  refine z_iload_n d_Mac_compute_4 rfl ?_
  refine z_iconst (v := 1) d_Mac_compute_5 (by decide) ?_
  refine z_callV1 d_Mac_compute_6 g_Mac_58 (c_Pro_word (w := 1) X hk (by decide) J G) (by omega) rfl rfl rfl ⟨by decide, by decide, by decide, by decide⟩ rfl (Nat.le_of_ble_eq_true rfl) ?_
  refine z_istore_n (lv' := [(0, _), (1, _), (2, _), (3, _)]) d_Mac_compute_9 (by decide) rfl ?_
  refine z_aload_n d_Mac_compute_10 rfl ?_
  refine z_get d_Mac_compute_11 f_Mac_21 (by omega) rfl rfl ?_
  refine z_iload_n d_Mac_compute_14 rfl ?_
  refine z_iconst (v := 2) d_Mac_compute_15 (by decide) ?_
  refine z_callV1 d_Mac_compute_16 g_Mac_58 (c_Pro_word (w := 2) X hk (by decide) J G) (by omega) rfl rfl rfl ⟨by decide, by decide, by decide, by decide⟩ rfl (Nat.le_of_ble_eq_true rfl) ?_
  refine z_istore (lv' := [(0, _), (1, _), (2, _), (3, _), (4, _)]) d_Mac_compute_19 (by decide) rfl ?_
  refine z_aload_n d_Mac_compute_21 rfl ?_
  refine z_get d_Mac_compute_22 f_Mac_21 (by omega) rfl rfl ?_
  refine z_iload_n d_Mac_compute_25 rfl ?_
  refine z_iconst (v := 3) d_Mac_compute_26 (by decide) ?_
  refine z_callV1 d_Mac_compute_27 g_Mac_58 (c_Pro_word (w := 3) X hk (by decide) J G) (by omega) rfl rfl rfl ⟨by decide, by decide, by decide, by decide⟩ rfl (Nat.le_of_ble_eq_true rfl) ?_
  refine z_istore (lv' := [(0, _), (1, _), (2, _), (3, _), (4, _), (5, _)]) d_Mac_compute_30 (by decide) rfl ?_
  refine z_iload_n d_Mac_compute_32 rfl ?_
  refine z_iconst (v := 1) d_Mac_compute_33 (by decide) ?_
  refine z_iadd d_Mac_compute_34 ?_
  refine z_istore (lv' := [(0, _), (1, _), (2, _), (3, _), (4, _), (5, _), (6, _)]) d_Mac_compute_35 (by decide) rfl ?_
  refine z_iload_n d_Mac_compute_37 rfl ?_
  refine z_tableIn (off := 189) d_Mac_compute_38 227 (by decide) (by decide) (by decide) (by decide) ?_
  refine z_aload_n d_Mac_compute_227 rfl ?_
  refine z_get d_Mac_compute_228 f_Mac_28 (by omega) rfl rfl ?_
  refine z_aload_n d_Mac_compute_231 rfl ?_
  refine z_get d_Mac_compute_232 f_Mac_37 (by omega) rfl rfl ?_
  refine z_iload_n d_Mac_compute_235 rfl ?_
  refine z_iload d_Mac_compute_236 rfl ?_
  refine z_callV1 d_Mac_compute_238 g_Mac_132 (hm) (by omega) rfl rfl rfl ⟨by decide, by decide, by decide, by decide⟩ rfl (Nat.le_of_ble_eq_true rfl) ?_
  refine z_if_eq d_Mac_compute_241 249 (by decide) (fun _ => ?_) (fun h9 => absurd (by decide) h9)
  refine z_aload_n d_Mac_compute_249 rfl ?_
  refine z_iconst (v := 2) d_Mac_compute_250 (by decide) ?_
  refine z_callV1 d_Mac_compute_251 g_Mac_85 (c_Mac_end X 2 J G) (by omega) rfl rfl rfl ⟨by decide, by decide, by decide, by decide⟩ rfl (Nat.le_of_ble_eq_true rfl) ?_
  exact z_iret d_Mac_compute_254 rfl (by decide) (by decide) rfl rfl
set_option maxRecDepth 100000 in
set_option maxHeartbeats 4000000 in
theorem c_com_goto (X : zX) {k : Nat} (hk : k < 60) (J : zJT) (G : zGT)  : zK X 2 m_Mac_compute [.ref 1, .int (nI 19), .int (nI k)] J G (some (.int (J 16 (4 * k + 1)))) J G := by
  refine zC_of (by decide) (Nat.le_of_ble_eq_true rfl) ?_
  refine z_aload_n d_Mac_compute_0 rfl ?_
  refine z_get d_Mac_compute_1 f_Mac_21 (by omega) rfl rfl ?_
  refine z_iload_n d_Mac_compute_4 rfl ?_
  refine z_iconst (v := 1) d_Mac_compute_5 (by decide) ?_
  refine z_callV1 d_Mac_compute_6 g_Mac_58 (c_Pro_word (w := 1) X hk (by decide) J G) (by omega) rfl rfl rfl ⟨by decide, by decide, by decide, by decide⟩ rfl (Nat.le_of_ble_eq_true rfl) ?_
  refine z_istore_n (lv' := [(0, _), (1, _), (2, _), (3, _)]) d_Mac_compute_9 (by decide) rfl ?_
  refine z_aload_n d_Mac_compute_10 rfl ?_
  refine z_get d_Mac_compute_11 f_Mac_21 (by omega) rfl rfl ?_
  refine z_iload_n d_Mac_compute_14 rfl ?_
  refine z_iconst (v := 2) d_Mac_compute_15 (by decide) ?_
  refine z_callV1 d_Mac_compute_16 g_Mac_58 (c_Pro_word (w := 2) X hk (by decide) J G) (by omega) rfl rfl rfl ⟨by decide, by decide, by decide, by decide⟩ rfl (Nat.le_of_ble_eq_true rfl) ?_
  refine z_istore (lv' := [(0, _), (1, _), (2, _), (3, _), (4, _)]) d_Mac_compute_19 (by decide) rfl ?_
  refine z_aload_n d_Mac_compute_21 rfl ?_
  refine z_get d_Mac_compute_22 f_Mac_21 (by omega) rfl rfl ?_
  refine z_iload_n d_Mac_compute_25 rfl ?_
  refine z_iconst (v := 3) d_Mac_compute_26 (by decide) ?_
  refine z_callV1 d_Mac_compute_27 g_Mac_58 (c_Pro_word (w := 3) X hk (by decide) J G) (by omega) rfl rfl rfl ⟨by decide, by decide, by decide, by decide⟩ rfl (Nat.le_of_ble_eq_true rfl) ?_
  refine z_istore (lv' := [(0, _), (1, _), (2, _), (3, _), (4, _), (5, _)]) d_Mac_compute_30 (by decide) rfl ?_
  refine z_iload_n d_Mac_compute_32 rfl ?_
  refine z_iconst (v := 1) d_Mac_compute_33 (by decide) ?_
  refine z_iadd d_Mac_compute_34 ?_
  refine z_istore (lv' := [(0, _), (1, _), (2, _), (3, _), (4, _), (5, _), (6, _)]) d_Mac_compute_35 (by decide) rfl ?_
  refine z_iload_n d_Mac_compute_37 rfl ?_
  refine z_tableIn (off := 217) d_Mac_compute_38 255 (by decide) (by decide) (by decide) (by decide) ?_
  refine z_iload_n d_Mac_compute_255 rfl ?_
  exact z_iret d_Mac_compute_256 rfl (by decide) (by decide) rfl rfl
set_option maxRecDepth 100000 in
set_option maxHeartbeats 4000000 in
theorem c_com_cmp9 (X : zX) {k : Nat} (hk : k < 60) (J : zJT) (G : zGT) (b : Bool) (hm : zK X 1 m_Mac_holds [.ref 1, .int (nI 9), .int (J 16 (4 * k + 1)), .int (J 16 (4 * k + 3))] J G (some (.int (zb b))) J G) : zK X 2 m_Mac_compute [.ref 1, .int (nI 9), .int (nI k)] J G (some (.int (if b then (J 16 (4 * k + 2)) else nI k + 1))) J G := by
  refine zC_of (by decide) (Nat.le_of_ble_eq_true rfl) ?_
  refine z_aload_n d_Mac_compute_0 rfl ?_
  refine z_get d_Mac_compute_1 f_Mac_21 (by omega) rfl rfl ?_
  refine z_iload_n d_Mac_compute_4 rfl ?_
  refine z_iconst (v := 1) d_Mac_compute_5 (by decide) ?_
  refine z_callV1 d_Mac_compute_6 g_Mac_58 (c_Pro_word (w := 1) X hk (by decide) J G) (by omega) rfl rfl rfl ⟨by decide, by decide, by decide, by decide⟩ rfl (Nat.le_of_ble_eq_true rfl) ?_
  refine z_istore_n (lv' := [(0, _), (1, _), (2, _), (3, _)]) d_Mac_compute_9 (by decide) rfl ?_
  refine z_aload_n d_Mac_compute_10 rfl ?_
  refine z_get d_Mac_compute_11 f_Mac_21 (by omega) rfl rfl ?_
  refine z_iload_n d_Mac_compute_14 rfl ?_
  refine z_iconst (v := 2) d_Mac_compute_15 (by decide) ?_
  refine z_callV1 d_Mac_compute_16 g_Mac_58 (c_Pro_word (w := 2) X hk (by decide) J G) (by omega) rfl rfl rfl ⟨by decide, by decide, by decide, by decide⟩ rfl (Nat.le_of_ble_eq_true rfl) ?_
  refine z_istore (lv' := [(0, _), (1, _), (2, _), (3, _), (4, _)]) d_Mac_compute_19 (by decide) rfl ?_
  refine z_aload_n d_Mac_compute_21 rfl ?_
  refine z_get d_Mac_compute_22 f_Mac_21 (by omega) rfl rfl ?_
  refine z_iload_n d_Mac_compute_25 rfl ?_
  refine z_iconst (v := 3) d_Mac_compute_26 (by decide) ?_
  refine z_callV1 d_Mac_compute_27 g_Mac_58 (c_Pro_word (w := 3) X hk (by decide) J G) (by omega) rfl rfl rfl ⟨by decide, by decide, by decide, by decide⟩ rfl (Nat.le_of_ble_eq_true rfl) ?_
  refine z_istore (lv' := [(0, _), (1, _), (2, _), (3, _), (4, _), (5, _)]) d_Mac_compute_30 (by decide) rfl ?_
  refine z_iload_n d_Mac_compute_32 rfl ?_
  refine z_iconst (v := 1) d_Mac_compute_33 (by decide) ?_
  refine z_iadd d_Mac_compute_34 ?_
  refine z_istore (lv' := [(0, _), (1, _), (2, _), (3, _), (4, _), (5, _), (6, _)]) d_Mac_compute_35 (by decide) rfl ?_
  refine z_iload_n d_Mac_compute_37 rfl ?_
  refine z_tableIn (off := 219) d_Mac_compute_38 257 (by decide) (by decide) (by decide) (by decide) ?_
  refine z_aload_n d_Mac_compute_257 rfl ?_
  refine z_iload_n d_Mac_compute_258 rfl ?_
  refine z_iload_n d_Mac_compute_259 rfl ?_
  refine z_iload d_Mac_compute_260 rfl ?_
  refine z_callV1 d_Mac_compute_262 g_Mac_136 (hm) (by omega) rfl rfl rfl ⟨by decide, by decide, by decide, by decide⟩ rfl (Nat.le_of_ble_eq_true rfl) ?_
  refine z_if_eq d_Mac_compute_265 273 (by decide) (fun h265 => ?_) (fun h265 => ?_)
  · refine z_iload d_Mac_compute_273 rfl ?_
    exact z_iret d_Mac_compute_275 rfl (by decide) (by decide) (by first | (rw [zb0 h265]; rfl) | (rw [zb1' h265]; rfl)) rfl
  · refine z_iload d_Mac_compute_268 rfl ?_
    refine z_goto d_Mac_compute_270 275 (by decide) ?_
    exact z_iret d_Mac_compute_275 rfl (by decide) (by decide) (by first | (rw [zb0 h265]; rfl) | (rw [zb1' h265]; rfl)) rfl
set_option maxRecDepth 100000 in
set_option maxHeartbeats 4000000 in
theorem c_com_cmp10 (X : zX) {k : Nat} (hk : k < 60) (J : zJT) (G : zGT) (b : Bool) (hm : zK X 1 m_Mac_holds [.ref 1, .int (nI 10), .int (J 16 (4 * k + 1)), .int (J 16 (4 * k + 3))] J G (some (.int (zb b))) J G) : zK X 2 m_Mac_compute [.ref 1, .int (nI 10), .int (nI k)] J G (some (.int (if b then (J 16 (4 * k + 2)) else nI k + 1))) J G := by
  refine zC_of (by decide) (Nat.le_of_ble_eq_true rfl) ?_
  refine z_aload_n d_Mac_compute_0 rfl ?_
  refine z_get d_Mac_compute_1 f_Mac_21 (by omega) rfl rfl ?_
  refine z_iload_n d_Mac_compute_4 rfl ?_
  refine z_iconst (v := 1) d_Mac_compute_5 (by decide) ?_
  refine z_callV1 d_Mac_compute_6 g_Mac_58 (c_Pro_word (w := 1) X hk (by decide) J G) (by omega) rfl rfl rfl ⟨by decide, by decide, by decide, by decide⟩ rfl (Nat.le_of_ble_eq_true rfl) ?_
  refine z_istore_n (lv' := [(0, _), (1, _), (2, _), (3, _)]) d_Mac_compute_9 (by decide) rfl ?_
  refine z_aload_n d_Mac_compute_10 rfl ?_
  refine z_get d_Mac_compute_11 f_Mac_21 (by omega) rfl rfl ?_
  refine z_iload_n d_Mac_compute_14 rfl ?_
  refine z_iconst (v := 2) d_Mac_compute_15 (by decide) ?_
  refine z_callV1 d_Mac_compute_16 g_Mac_58 (c_Pro_word (w := 2) X hk (by decide) J G) (by omega) rfl rfl rfl ⟨by decide, by decide, by decide, by decide⟩ rfl (Nat.le_of_ble_eq_true rfl) ?_
  refine z_istore (lv' := [(0, _), (1, _), (2, _), (3, _), (4, _)]) d_Mac_compute_19 (by decide) rfl ?_
  refine z_aload_n d_Mac_compute_21 rfl ?_
  refine z_get d_Mac_compute_22 f_Mac_21 (by omega) rfl rfl ?_
  refine z_iload_n d_Mac_compute_25 rfl ?_
  refine z_iconst (v := 3) d_Mac_compute_26 (by decide) ?_
  refine z_callV1 d_Mac_compute_27 g_Mac_58 (c_Pro_word (w := 3) X hk (by decide) J G) (by omega) rfl rfl rfl ⟨by decide, by decide, by decide, by decide⟩ rfl (Nat.le_of_ble_eq_true rfl) ?_
  refine z_istore (lv' := [(0, _), (1, _), (2, _), (3, _), (4, _), (5, _)]) d_Mac_compute_30 (by decide) rfl ?_
  refine z_iload_n d_Mac_compute_32 rfl ?_
  refine z_iconst (v := 1) d_Mac_compute_33 (by decide) ?_
  refine z_iadd d_Mac_compute_34 ?_
  refine z_istore (lv' := [(0, _), (1, _), (2, _), (3, _), (4, _), (5, _), (6, _)]) d_Mac_compute_35 (by decide) rfl ?_
  refine z_iload_n d_Mac_compute_37 rfl ?_
  refine z_tableIn (off := 219) d_Mac_compute_38 257 (by decide) (by decide) (by decide) (by decide) ?_
  refine z_aload_n d_Mac_compute_257 rfl ?_
  refine z_iload_n d_Mac_compute_258 rfl ?_
  refine z_iload_n d_Mac_compute_259 rfl ?_
  refine z_iload d_Mac_compute_260 rfl ?_
  refine z_callV1 d_Mac_compute_262 g_Mac_136 (hm) (by omega) rfl rfl rfl ⟨by decide, by decide, by decide, by decide⟩ rfl (Nat.le_of_ble_eq_true rfl) ?_
  refine z_if_eq d_Mac_compute_265 273 (by decide) (fun h265 => ?_) (fun h265 => ?_)
  · refine z_iload d_Mac_compute_273 rfl ?_
    exact z_iret d_Mac_compute_275 rfl (by decide) (by decide) (by first | (rw [zb0 h265]; rfl) | (rw [zb1' h265]; rfl)) rfl
  · refine z_iload d_Mac_compute_268 rfl ?_
    refine z_goto d_Mac_compute_270 275 (by decide) ?_
    exact z_iret d_Mac_compute_275 rfl (by decide) (by decide) (by first | (rw [zb0 h265]; rfl) | (rw [zb1' h265]; rfl)) rfl
set_option maxRecDepth 100000 in
set_option maxHeartbeats 4000000 in
theorem c_com_cmp11 (X : zX) {k : Nat} (hk : k < 60) (J : zJT) (G : zGT) (b : Bool) (hm : zK X 1 m_Mac_holds [.ref 1, .int (nI 11), .int (J 16 (4 * k + 1)), .int (J 16 (4 * k + 3))] J G (some (.int (zb b))) J G) : zK X 2 m_Mac_compute [.ref 1, .int (nI 11), .int (nI k)] J G (some (.int (if b then (J 16 (4 * k + 2)) else nI k + 1))) J G := by
  refine zC_of (by decide) (Nat.le_of_ble_eq_true rfl) ?_
  refine z_aload_n d_Mac_compute_0 rfl ?_
  refine z_get d_Mac_compute_1 f_Mac_21 (by omega) rfl rfl ?_
  refine z_iload_n d_Mac_compute_4 rfl ?_
  refine z_iconst (v := 1) d_Mac_compute_5 (by decide) ?_
  refine z_callV1 d_Mac_compute_6 g_Mac_58 (c_Pro_word (w := 1) X hk (by decide) J G) (by omega) rfl rfl rfl ⟨by decide, by decide, by decide, by decide⟩ rfl (Nat.le_of_ble_eq_true rfl) ?_
  refine z_istore_n (lv' := [(0, _), (1, _), (2, _), (3, _)]) d_Mac_compute_9 (by decide) rfl ?_
  refine z_aload_n d_Mac_compute_10 rfl ?_
  refine z_get d_Mac_compute_11 f_Mac_21 (by omega) rfl rfl ?_
  refine z_iload_n d_Mac_compute_14 rfl ?_
  refine z_iconst (v := 2) d_Mac_compute_15 (by decide) ?_
  refine z_callV1 d_Mac_compute_16 g_Mac_58 (c_Pro_word (w := 2) X hk (by decide) J G) (by omega) rfl rfl rfl ⟨by decide, by decide, by decide, by decide⟩ rfl (Nat.le_of_ble_eq_true rfl) ?_
  refine z_istore (lv' := [(0, _), (1, _), (2, _), (3, _), (4, _)]) d_Mac_compute_19 (by decide) rfl ?_
  refine z_aload_n d_Mac_compute_21 rfl ?_
  refine z_get d_Mac_compute_22 f_Mac_21 (by omega) rfl rfl ?_
  refine z_iload_n d_Mac_compute_25 rfl ?_
  refine z_iconst (v := 3) d_Mac_compute_26 (by decide) ?_
  refine z_callV1 d_Mac_compute_27 g_Mac_58 (c_Pro_word (w := 3) X hk (by decide) J G) (by omega) rfl rfl rfl ⟨by decide, by decide, by decide, by decide⟩ rfl (Nat.le_of_ble_eq_true rfl) ?_
  refine z_istore (lv' := [(0, _), (1, _), (2, _), (3, _), (4, _), (5, _)]) d_Mac_compute_30 (by decide) rfl ?_
  refine z_iload_n d_Mac_compute_32 rfl ?_
  refine z_iconst (v := 1) d_Mac_compute_33 (by decide) ?_
  refine z_iadd d_Mac_compute_34 ?_
  refine z_istore (lv' := [(0, _), (1, _), (2, _), (3, _), (4, _), (5, _), (6, _)]) d_Mac_compute_35 (by decide) rfl ?_
  refine z_iload_n d_Mac_compute_37 rfl ?_
  refine z_tableIn (off := 219) d_Mac_compute_38 257 (by decide) (by decide) (by decide) (by decide) ?_
  refine z_aload_n d_Mac_compute_257 rfl ?_
  refine z_iload_n d_Mac_compute_258 rfl ?_
  refine z_iload_n d_Mac_compute_259 rfl ?_
  refine z_iload d_Mac_compute_260 rfl ?_
  refine z_callV1 d_Mac_compute_262 g_Mac_136 (hm) (by omega) rfl rfl rfl ⟨by decide, by decide, by decide, by decide⟩ rfl (Nat.le_of_ble_eq_true rfl) ?_
  refine z_if_eq d_Mac_compute_265 273 (by decide) (fun h265 => ?_) (fun h265 => ?_)
  · refine z_iload d_Mac_compute_273 rfl ?_
    exact z_iret d_Mac_compute_275 rfl (by decide) (by decide) (by first | (rw [zb0 h265]; rfl) | (rw [zb1' h265]; rfl)) rfl
  · refine z_iload d_Mac_compute_268 rfl ?_
    refine z_goto d_Mac_compute_270 275 (by decide) ?_
    exact z_iret d_Mac_compute_275 rfl (by decide) (by decide) (by first | (rw [zb0 h265]; rfl) | (rw [zb1' h265]; rfl)) rfl
set_option maxRecDepth 100000 in
set_option maxHeartbeats 4000000 in
theorem c_com_cmp12 (X : zX) {k : Nat} (hk : k < 60) (J : zJT) (G : zGT) (b : Bool) (hm : zK X 1 m_Mac_holds [.ref 1, .int (nI 12), .int (J 16 (4 * k + 1)), .int (J 16 (4 * k + 3))] J G (some (.int (zb b))) J G) : zK X 2 m_Mac_compute [.ref 1, .int (nI 12), .int (nI k)] J G (some (.int (if b then (J 16 (4 * k + 2)) else nI k + 1))) J G := by
  refine zC_of (by decide) (Nat.le_of_ble_eq_true rfl) ?_
  refine z_aload_n d_Mac_compute_0 rfl ?_
  refine z_get d_Mac_compute_1 f_Mac_21 (by omega) rfl rfl ?_
  refine z_iload_n d_Mac_compute_4 rfl ?_
  refine z_iconst (v := 1) d_Mac_compute_5 (by decide) ?_
  refine z_callV1 d_Mac_compute_6 g_Mac_58 (c_Pro_word (w := 1) X hk (by decide) J G) (by omega) rfl rfl rfl ⟨by decide, by decide, by decide, by decide⟩ rfl (Nat.le_of_ble_eq_true rfl) ?_
  refine z_istore_n (lv' := [(0, _), (1, _), (2, _), (3, _)]) d_Mac_compute_9 (by decide) rfl ?_
  refine z_aload_n d_Mac_compute_10 rfl ?_
  refine z_get d_Mac_compute_11 f_Mac_21 (by omega) rfl rfl ?_
  refine z_iload_n d_Mac_compute_14 rfl ?_
  refine z_iconst (v := 2) d_Mac_compute_15 (by decide) ?_
  refine z_callV1 d_Mac_compute_16 g_Mac_58 (c_Pro_word (w := 2) X hk (by decide) J G) (by omega) rfl rfl rfl ⟨by decide, by decide, by decide, by decide⟩ rfl (Nat.le_of_ble_eq_true rfl) ?_
  refine z_istore (lv' := [(0, _), (1, _), (2, _), (3, _), (4, _)]) d_Mac_compute_19 (by decide) rfl ?_
  refine z_aload_n d_Mac_compute_21 rfl ?_
  refine z_get d_Mac_compute_22 f_Mac_21 (by omega) rfl rfl ?_
  refine z_iload_n d_Mac_compute_25 rfl ?_
  refine z_iconst (v := 3) d_Mac_compute_26 (by decide) ?_
  refine z_callV1 d_Mac_compute_27 g_Mac_58 (c_Pro_word (w := 3) X hk (by decide) J G) (by omega) rfl rfl rfl ⟨by decide, by decide, by decide, by decide⟩ rfl (Nat.le_of_ble_eq_true rfl) ?_
  refine z_istore (lv' := [(0, _), (1, _), (2, _), (3, _), (4, _), (5, _)]) d_Mac_compute_30 (by decide) rfl ?_
  refine z_iload_n d_Mac_compute_32 rfl ?_
  refine z_iconst (v := 1) d_Mac_compute_33 (by decide) ?_
  refine z_iadd d_Mac_compute_34 ?_
  refine z_istore (lv' := [(0, _), (1, _), (2, _), (3, _), (4, _), (5, _), (6, _)]) d_Mac_compute_35 (by decide) rfl ?_
  refine z_iload_n d_Mac_compute_37 rfl ?_
  refine z_tableIn (off := 219) d_Mac_compute_38 257 (by decide) (by decide) (by decide) (by decide) ?_
  refine z_aload_n d_Mac_compute_257 rfl ?_
  refine z_iload_n d_Mac_compute_258 rfl ?_
  refine z_iload_n d_Mac_compute_259 rfl ?_
  refine z_iload d_Mac_compute_260 rfl ?_
  refine z_callV1 d_Mac_compute_262 g_Mac_136 (hm) (by omega) rfl rfl rfl ⟨by decide, by decide, by decide, by decide⟩ rfl (Nat.le_of_ble_eq_true rfl) ?_
  refine z_if_eq d_Mac_compute_265 273 (by decide) (fun h265 => ?_) (fun h265 => ?_)
  · refine z_iload d_Mac_compute_273 rfl ?_
    exact z_iret d_Mac_compute_275 rfl (by decide) (by decide) (by first | (rw [zb0 h265]; rfl) | (rw [zb1' h265]; rfl)) rfl
  · refine z_iload d_Mac_compute_268 rfl ?_
    refine z_goto d_Mac_compute_270 275 (by decide) ?_
    exact z_iret d_Mac_compute_275 rfl (by decide) (by decide) (by first | (rw [zb0 h265]; rfl) | (rw [zb1' h265]; rfl)) rfl
set_option maxRecDepth 100000 in
set_option maxHeartbeats 4000000 in
theorem c_com_cmp13 (X : zX) {k : Nat} (hk : k < 60) (J : zJT) (G : zGT) (b : Bool) (hm : zK X 1 m_Mac_holds [.ref 1, .int (nI 13), .int (J 16 (4 * k + 1)), .int (J 16 (4 * k + 3))] J G (some (.int (zb b))) J G) : zK X 2 m_Mac_compute [.ref 1, .int (nI 13), .int (nI k)] J G (some (.int (if b then (J 16 (4 * k + 2)) else nI k + 1))) J G := by
  refine zC_of (by decide) (Nat.le_of_ble_eq_true rfl) ?_
  refine z_aload_n d_Mac_compute_0 rfl ?_
  refine z_get d_Mac_compute_1 f_Mac_21 (by omega) rfl rfl ?_
  refine z_iload_n d_Mac_compute_4 rfl ?_
  refine z_iconst (v := 1) d_Mac_compute_5 (by decide) ?_
  refine z_callV1 d_Mac_compute_6 g_Mac_58 (c_Pro_word (w := 1) X hk (by decide) J G) (by omega) rfl rfl rfl ⟨by decide, by decide, by decide, by decide⟩ rfl (Nat.le_of_ble_eq_true rfl) ?_
  refine z_istore_n (lv' := [(0, _), (1, _), (2, _), (3, _)]) d_Mac_compute_9 (by decide) rfl ?_
  refine z_aload_n d_Mac_compute_10 rfl ?_
  refine z_get d_Mac_compute_11 f_Mac_21 (by omega) rfl rfl ?_
  refine z_iload_n d_Mac_compute_14 rfl ?_
  refine z_iconst (v := 2) d_Mac_compute_15 (by decide) ?_
  refine z_callV1 d_Mac_compute_16 g_Mac_58 (c_Pro_word (w := 2) X hk (by decide) J G) (by omega) rfl rfl rfl ⟨by decide, by decide, by decide, by decide⟩ rfl (Nat.le_of_ble_eq_true rfl) ?_
  refine z_istore (lv' := [(0, _), (1, _), (2, _), (3, _), (4, _)]) d_Mac_compute_19 (by decide) rfl ?_
  refine z_aload_n d_Mac_compute_21 rfl ?_
  refine z_get d_Mac_compute_22 f_Mac_21 (by omega) rfl rfl ?_
  refine z_iload_n d_Mac_compute_25 rfl ?_
  refine z_iconst (v := 3) d_Mac_compute_26 (by decide) ?_
  refine z_callV1 d_Mac_compute_27 g_Mac_58 (c_Pro_word (w := 3) X hk (by decide) J G) (by omega) rfl rfl rfl ⟨by decide, by decide, by decide, by decide⟩ rfl (Nat.le_of_ble_eq_true rfl) ?_
  refine z_istore (lv' := [(0, _), (1, _), (2, _), (3, _), (4, _), (5, _)]) d_Mac_compute_30 (by decide) rfl ?_
  refine z_iload_n d_Mac_compute_32 rfl ?_
  refine z_iconst (v := 1) d_Mac_compute_33 (by decide) ?_
  refine z_iadd d_Mac_compute_34 ?_
  refine z_istore (lv' := [(0, _), (1, _), (2, _), (3, _), (4, _), (5, _), (6, _)]) d_Mac_compute_35 (by decide) rfl ?_
  refine z_iload_n d_Mac_compute_37 rfl ?_
  refine z_tableIn (off := 219) d_Mac_compute_38 257 (by decide) (by decide) (by decide) (by decide) ?_
  refine z_aload_n d_Mac_compute_257 rfl ?_
  refine z_iload_n d_Mac_compute_258 rfl ?_
  refine z_iload_n d_Mac_compute_259 rfl ?_
  refine z_iload d_Mac_compute_260 rfl ?_
  refine z_callV1 d_Mac_compute_262 g_Mac_136 (hm) (by omega) rfl rfl rfl ⟨by decide, by decide, by decide, by decide⟩ rfl (Nat.le_of_ble_eq_true rfl) ?_
  refine z_if_eq d_Mac_compute_265 273 (by decide) (fun h265 => ?_) (fun h265 => ?_)
  · refine z_iload d_Mac_compute_273 rfl ?_
    exact z_iret d_Mac_compute_275 rfl (by decide) (by decide) (by first | (rw [zb0 h265]; rfl) | (rw [zb1' h265]; rfl)) rfl
  · refine z_iload d_Mac_compute_268 rfl ?_
    refine z_goto d_Mac_compute_270 275 (by decide) ?_
    exact z_iret d_Mac_compute_275 rfl (by decide) (by decide) (by first | (rw [zb0 h265]; rfl) | (rw [zb1' h265]; rfl)) rfl
set_option maxRecDepth 100000 in
set_option maxHeartbeats 4000000 in
theorem c_com_cmp14 (X : zX) {k : Nat} (hk : k < 60) (J : zJT) (G : zGT) (b : Bool) (hm : zK X 1 m_Mac_holds [.ref 1, .int (nI 14), .int (J 16 (4 * k + 1)), .int (J 16 (4 * k + 3))] J G (some (.int (zb b))) J G) : zK X 2 m_Mac_compute [.ref 1, .int (nI 14), .int (nI k)] J G (some (.int (if b then (J 16 (4 * k + 2)) else nI k + 1))) J G := by
  refine zC_of (by decide) (Nat.le_of_ble_eq_true rfl) ?_
  refine z_aload_n d_Mac_compute_0 rfl ?_
  refine z_get d_Mac_compute_1 f_Mac_21 (by omega) rfl rfl ?_
  refine z_iload_n d_Mac_compute_4 rfl ?_
  refine z_iconst (v := 1) d_Mac_compute_5 (by decide) ?_
  refine z_callV1 d_Mac_compute_6 g_Mac_58 (c_Pro_word (w := 1) X hk (by decide) J G) (by omega) rfl rfl rfl ⟨by decide, by decide, by decide, by decide⟩ rfl (Nat.le_of_ble_eq_true rfl) ?_
  refine z_istore_n (lv' := [(0, _), (1, _), (2, _), (3, _)]) d_Mac_compute_9 (by decide) rfl ?_
  refine z_aload_n d_Mac_compute_10 rfl ?_
  refine z_get d_Mac_compute_11 f_Mac_21 (by omega) rfl rfl ?_
  refine z_iload_n d_Mac_compute_14 rfl ?_
  refine z_iconst (v := 2) d_Mac_compute_15 (by decide) ?_
  refine z_callV1 d_Mac_compute_16 g_Mac_58 (c_Pro_word (w := 2) X hk (by decide) J G) (by omega) rfl rfl rfl ⟨by decide, by decide, by decide, by decide⟩ rfl (Nat.le_of_ble_eq_true rfl) ?_
  refine z_istore (lv' := [(0, _), (1, _), (2, _), (3, _), (4, _)]) d_Mac_compute_19 (by decide) rfl ?_
  refine z_aload_n d_Mac_compute_21 rfl ?_
  refine z_get d_Mac_compute_22 f_Mac_21 (by omega) rfl rfl ?_
  refine z_iload_n d_Mac_compute_25 rfl ?_
  refine z_iconst (v := 3) d_Mac_compute_26 (by decide) ?_
  refine z_callV1 d_Mac_compute_27 g_Mac_58 (c_Pro_word (w := 3) X hk (by decide) J G) (by omega) rfl rfl rfl ⟨by decide, by decide, by decide, by decide⟩ rfl (Nat.le_of_ble_eq_true rfl) ?_
  refine z_istore (lv' := [(0, _), (1, _), (2, _), (3, _), (4, _), (5, _)]) d_Mac_compute_30 (by decide) rfl ?_
  refine z_iload_n d_Mac_compute_32 rfl ?_
  refine z_iconst (v := 1) d_Mac_compute_33 (by decide) ?_
  refine z_iadd d_Mac_compute_34 ?_
  refine z_istore (lv' := [(0, _), (1, _), (2, _), (3, _), (4, _), (5, _), (6, _)]) d_Mac_compute_35 (by decide) rfl ?_
  refine z_iload_n d_Mac_compute_37 rfl ?_
  refine z_tableIn (off := 219) d_Mac_compute_38 257 (by decide) (by decide) (by decide) (by decide) ?_
  refine z_aload_n d_Mac_compute_257 rfl ?_
  refine z_iload_n d_Mac_compute_258 rfl ?_
  refine z_iload_n d_Mac_compute_259 rfl ?_
  refine z_iload d_Mac_compute_260 rfl ?_
  refine z_callV1 d_Mac_compute_262 g_Mac_136 (hm) (by omega) rfl rfl rfl ⟨by decide, by decide, by decide, by decide⟩ rfl (Nat.le_of_ble_eq_true rfl) ?_
  refine z_if_eq d_Mac_compute_265 273 (by decide) (fun h265 => ?_) (fun h265 => ?_)
  · refine z_iload d_Mac_compute_273 rfl ?_
    exact z_iret d_Mac_compute_275 rfl (by decide) (by decide) (by first | (rw [zb0 h265]; rfl) | (rw [zb1' h265]; rfl)) rfl
  · refine z_iload d_Mac_compute_268 rfl ?_
    refine z_goto d_Mac_compute_270 275 (by decide) ?_
    exact z_iret d_Mac_compute_275 rfl (by decide) (by decide) (by first | (rw [zb0 h265]; rfl) | (rw [zb1' h265]; rfl)) rfl
end
section
/-- the cursors below k are shut -/
def zsh3 (J : zJT) (k : Nat) : zJT := fun a => if 26 ≤ a ∧ a < 26 + k then va_up (va_up (J a) 0 (-1)) 1 0 else J a
theorem zsh3_0 (J : zJT) : zsh3 J 0 = J := by funext a; simp only [zsh3]; rw [if_neg (by omega)]
theorem zsh3_s (J : zJT) (k : Nat) : va_up (zsh3 J k) (26 + k) (va_up (va_up (zsh3 J k (26 + k)) 0 (-1)) 1 0) = zsh3 J (k + 1) := by
  funext a
  by_cases h : a = 26 + k
  · subst h; rw [zu_s]; simp only [zsh3]; rw [if_neg (by omega), if_pos (by omega)]
  · rw [zu_n h]; simp only [zsh3]
    by_cases h2 : 26 ≤ a ∧ a < 26 + k
    · rw [if_pos h2, if_pos (by omega)]
    · rw [if_neg h2, if_neg (by omega)]
/-- the heap at the start of a run -/
def zrsJ (J : zJT) : zJT := va_up (va_up (zsh3 (va_up J 24 (zcl (J 24) 16)) 3) 17 (va_up (J 17) 0 0)) 1 (va_up (J 1) 5 0)
def zrsG (G : zGT) : zGT := va_up G 23 (zclL (G 23) 16)
set_option maxRecDepth 100000 in
set_option maxHeartbeats 4000000 in
theorem l_Mac_reset (X : zX) (J : zJT) (G : zGT) : ∀ m k, 3 - k = m → k ≤ 3 → zJ X (zR 2 0 0) m_Mac_reset (zRet X 0 0 false none (hp (zrsJ J) (zrsG G)) 60) false 0 0 (hp (zsh3 (va_up J 24 (zcl (J 24) 16)) k) (zrsG G)) 60 9 [(0, .ref 1), (1, .int (nI k))] [] := by
  intro m
  induction m with
  | zero =>
    intro k hm hk
    rw [show k = 3 by omega]
    refine z_iload_n d_Mac_reset_9 rfl ?_
    refine z_iconst (v := 3) d_Mac_reset_10 (by decide) ?_
    refine z_icmp_ge d_Mac_reset_11 29 (by decide) (fun _ => ?_) (fun h9 => absurd (by decide) h9)
    refine z_aload_n d_Mac_reset_29 rfl ?_
    refine z_get d_Mac_reset_30 f_Mac_28 (by omega) rfl rfl ?_
    refine z_iconst (v := 0) d_Mac_reset_33 (by decide) ?_
    refine z_put d_Mac_reset_34 f_Mac_80 p_7_0 (by omega) rfl (Nat.le_of_ble_eq_true rfl) rfl rfl (hp_pi 0 rfl) ?_
    refine z_aload_n d_Mac_reset_37 rfl ?_
    refine z_iconst (v := 0) d_Mac_reset_38 (by decide) ?_
    refine z_put d_Mac_reset_39 f_Mac_47 p_1_5 (by omega) rfl (Nat.le_of_ble_eq_true rfl) rfl rfl (hp_pi 5 rfl) ?_
    exact z_vret d_Mac_reset_42 rfl (by decide) (by decide) (by simp [zrsJ, zrsG, zsh3, zu_n, va_up])
  | succ m ih =>
    intro k hm hk
    refine z_iload_n d_Mac_reset_9 rfl ?_
    refine z_iconst (v := 3) d_Mac_reset_10 (by decide) ?_
    refine z_icmp_ge d_Mac_reset_11 29 (by decide) (fun h9 => absurd h9 (nI_ge (show k < 3 by omega) (by decide))) (fun _ => ?_)
    refine z_aload_n d_Mac_reset_14 rfl ?_
    refine z_get d_Mac_reset_15 f_Mac_43 (by omega) rfl rfl ?_
    refine z_iload_n d_Mac_reset_18 rfl ?_
    refine z_aald d_Mac_reset_19 (by omega) rfl rfl (show zin (nI k) k 3 from ⟨rfl, by omega, by decide⟩) (zc_at (show k < 3 by omega)) ?_
    refine z_callV0 d_Mac_reset_20 g_Mac_77 (c_Cur_shut X (show k < 3 by omega) _ _) (by omega) (zc_c (show k < 3 by omega) _ _) rfl rfl ⟨by decide, by decide, by decide, by decide⟩ rfl (Nat.le_of_ble_eq_true rfl) ?_
    refine z_iinc (lv' := [(0, _), (1, _)]) d_Mac_reset_23 (by decide) rfl (show _ + Int32.ofInt 1 = nI (k + 1) from nI_1 _) rfl ?_
    refine z_goto d_Mac_reset_26 9 (by decide) ?_
    refine z_heq (h' := (hp (zsh3 (va_up J 24 (zcl (J 24) 16)) (k + 1)) (zrsG G))) ?_ (ih (k + 1) (by omega) (by omega))
    rw [zsh3_s]
set_option maxRecDepth 100000 in
set_option maxHeartbeats 4000000 in
theorem c_Mac_reset (X : zX) (J : zJT) (G : zGT) : zK X 2 m_Mac_reset [.ref 1] J G none (zrsJ J) (zrsG G) := by
  refine zC_of (by decide) (Nat.le_of_ble_eq_true rfl) ?_
  refine z_aload_n d_Mac_reset_0 rfl ?_
  refine z_get d_Mac_reset_1 f_Mac_37 (by omega) rfl rfl ?_
  refine z_callV0 d_Mac_reset_4 g_Mac_74 (c_Val_clearAll X J G) (by omega) rfl rfl rfl ⟨by decide, by decide, by decide, by decide⟩ rfl (Nat.le_of_ble_eq_true rfl) ?_
  refine z_iconst (v := 0) d_Mac_reset_7 (by decide) ?_
  refine z_istore_n (lv' := [(0, _), (1, _)]) d_Mac_reset_8 (by decide) rfl ?_
  exact z_loc (lv' := [(0, .ref 1), (1, .int (nI 0))]) (by simp [nI_0]) (z_heq (by rw [zsh3_0]; rfl) (l_Mac_reset X J G 3 0 (by omega) (by omega)))
def zNd (o : Nat) : Bool := decide (¬ nI o = 1) && decide (zKinds.getD (3 * o) 0 = 1)
/-- one instruction: from number a to number a1 -/
def zSp (X : zX) (N a : Nat) (J : zJT) (G : zGT) (a1 : Nat) (J1 : zJT) (G1 : zGT) : Prop := ∃ o, o < 22 ∧ J 16 (4 * a) = nI o ∧ J1 15 0 = nI N ∧ a1 ≤ 60 ∧
  (zNd o = true → zK X 4 m_Mac_useCursor [.ref 1, .int (nI o), .int (nI a)] J G (some (.int (nI a1))) J1 G1) ∧ (zNd o = false → zK X 2 m_Mac_compute [.ref 1, .int (nI o), .int (nI a)] J G (some (.int (nI a1))) J1 G1)
/-- at most m instructions -/
def zEx (X : zX) (N : Nat) : Nat → Nat → zJT → zGT → Nat → zJT → zGT → Prop
  | 0, a, J, G, a', J', G' => a' = a ∧ J' = J ∧ G' = G
  | m + 1, a, J, G, a', J', G' => (N ≤ a ∧ a' = a ∧ J' = J ∧ G' = G) ∨ (a < N ∧ ∃ a1 J1 G1, zSp X N a J G a1 J1 G1 ∧ zEx X N m a1 J1 G1 a' J' G')
set_option maxRecDepth 100000 in
set_option maxHeartbeats 4000000 in
theorem l_Mac_exit (X : zX) {N F a' : Nat} (hN : N ≤ 60) (hF : F ≤ 4000) {J' : zJT} {G' : zGT} (hs' : J' 15 0 = nI N) (ha : a' ≤ 60) {i : Nat} : zJ X (zR 5 0 0) m_Mac_execute (zRet X 0 0 false (some (.int (if a' < N then 1 else J' 1 5))) (hp J' G') 60) false 0 0 (hp J' G') 60 67 [(0, .ref 1), (1, .int (nI F)), (2, .int (nI a')), (3, .int (nI i))] [] := by
  refine z_iload_n d_Mac_execute_67 rfl ?_
  refine z_aload_n d_Mac_execute_68 rfl ?_
  refine z_get d_Mac_execute_69 f_Mac_21 (by omega) rfl rfl ?_
  refine z_get d_Mac_execute_72 f_Mac_55 (by omega) rfl rfl ?_
  refine z_icmp_ge d_Mac_execute_75 82 (by decide) (fun h75 => ?_) (fun h75 => ?_)
  · refine z_aload_n d_Mac_execute_82 rfl ?_
    refine z_get d_Mac_execute_83 f_Mac_47 (by omega) rfl rfl ?_
    exact z_iret d_Mac_execute_86 rfl (by decide) (by decide) (by rw [if_neg (fun h9 => absurd (show J' 15 0 ≤ nI a' from h75) (by rw [hs']; exact nI_ge h9 (by omega)))]) rfl
  · refine z_iconst (v := 1) d_Mac_execute_78 (by decide) ?_
    refine z_goto d_Mac_execute_79 86 (by decide) ?_
    exact z_iret d_Mac_execute_86 rfl (by decide) (by decide) (by rw [if_pos (Nat.lt_of_not_le (fun h9 => h75 (by rw [hs']; exact nI_le h9 (by omega))))]) rfl
set_option maxRecDepth 100000 in
set_option maxHeartbeats 4000000 in
theorem l_Mac_execute (X : zX) {N F a' : Nat} (hN : N ≤ 60) (hF : F ≤ 4000) {J' : zJT} {G' : zGT} : ∀ m i a J G, i + m = F → a ≤ 60 → J 15 0 = nI N → zEx X N m a J G a' J' G' → zJ X (zR 5 0 0) m_Mac_execute (zRet X 0 0 false (some (.int (if a' < N then 1 else J' 1 5))) (hp J' G') 60) false 0 0 (hp J G) 60 8 [(0, .ref 1), (1, .int (nI F)), (2, .int (nI a)), (3, .int (nI i))] [] := by
  intro m
  induction m with
  | zero =>
    intro i a J G hi ha hs hx
    refine z_iload_n d_Mac_execute_8 rfl ?_
    refine z_iload_n d_Mac_execute_9 rfl ?_
    refine z_icmp_ge d_Mac_execute_10 67 (by decide) (fun _ => ?_) (fun h9 => absurd (nI_le (show F ≤ i by omega) (by omega)) h9)
    obtain ⟨rfl, rfl, rfl⟩ := hx
    exact z_loc (lv' := [(0, .ref 1), (1, .int (nI F)), (2, .int (nI a')), (3, .int (nI i))]) (by simp) (l_Mac_exit X hN hF hs ha)
  | succ m ih =>
    intro i a J G hi ha hs hx
    rcases hx with hx | ⟨hlt, a1, J1, G1, ⟨o, ho22, ho, hs1, ha1, hu, hv⟩, hx1⟩
    · refine z_iload_n d_Mac_execute_8 rfl ?_
      refine z_iload_n d_Mac_execute_9 rfl ?_
      refine z_icmp_ge d_Mac_execute_10 67 (by decide) (fun h9 => absurd h9 (nI_ge (show i < F by omega) (by omega))) (fun _ => ?_)
      refine z_iload_n d_Mac_execute_13 rfl ?_
      refine z_aload_n d_Mac_execute_14 rfl ?_
      refine z_get d_Mac_execute_15 f_Mac_21 (by omega) rfl rfl ?_
      refine z_get d_Mac_execute_18 f_Mac_55 (by omega) rfl rfl ?_
      refine z_icmp_ge d_Mac_execute_21 67 (by decide) (fun _ => ?_) (fun h9 => absurd (by rw [hs]; exact nI_le hx.1 (by omega)) h9)
      obtain ⟨-, rfl, rfl, rfl⟩ := hx
      exact z_loc (lv' := [(0, .ref 1), (1, .int (nI F)), (2, .int (nI a')), (3, .int (nI i))]) (by simp) (l_Mac_exit X hN hF hs ha)
    · cases hnd : zNd o
      · refine z_iload_n d_Mac_execute_8 rfl ?_
        refine z_iload_n d_Mac_execute_9 rfl ?_
        refine z_icmp_ge d_Mac_execute_10 67 (by decide) (fun h9 => absurd h9 (nI_ge (show i < F by omega) (by omega))) (fun _ => ?_)
        refine z_iload_n d_Mac_execute_13 rfl ?_
        refine z_aload_n d_Mac_execute_14 rfl ?_
        refine z_get d_Mac_execute_15 f_Mac_21 (by omega) rfl rfl ?_
        refine z_get d_Mac_execute_18 f_Mac_55 (by omega) rfl rfl ?_
        refine z_icmp_ge d_Mac_execute_21 67 (by decide) (fun h9 => absurd h9 (by rw [hs]; exact nI_ge hlt (by omega))) (fun _ => ?_)
        refine z_aload_n d_Mac_execute_24 rfl ?_
        refine z_get d_Mac_execute_25 f_Mac_21 (by omega) rfl rfl ?_
        refine z_iload_n d_Mac_execute_28 rfl ?_
        refine z_iconst (v := 0) d_Mac_execute_29 (by decide) ?_
        refine z_callV1 d_Mac_execute_30 g_Mac_58 (c_Pro_word (w := 0) X (show a < 60 by omega) (by decide) J G) (by omega) rfl rfl rfl ⟨by decide, by decide, by decide, by decide⟩ rfl (Nat.le_of_ble_eq_true rfl) ?_
        rw [show J 16 (4 * a + 0) = nI o from ho]
        refine z_istore (lv' := [(0, _), (1, _), (2, _), (3, _), (4, _)]) d_Mac_execute_33 (by decide) rfl ?_
        refine z_iload d_Mac_execute_35 rfl ?_
        refine z_callS1 d_Mac_execute_37 g_Mac_62 (c_Op_needs X ho22 J G) rfl ⟨by decide, by decide, by decide, by decide⟩ rfl (Nat.le_of_ble_eq_true rfl) ?_
        refine z_if_eq d_Mac_execute_40 53 (by decide) (fun _ => ?_) (fun h9 => absurd (show zb (zNd o) = 0 by rw [hnd]; rfl) h9)
        refine z_aload_n d_Mac_execute_53 rfl ?_
        refine z_iload d_Mac_execute_54 rfl ?_
        refine z_iload_n d_Mac_execute_56 rfl ?_
        refine z_callV1 d_Mac_execute_57 g_Mac_71 (hv hnd) (by omega) rfl rfl rfl ⟨by decide, by decide, by decide, by decide⟩ rfl (Nat.le_of_ble_eq_true rfl) ?_
        refine z_istore_n (lv' := [(0, _), (1, _), (3, _), (4, _), (2, _)]) d_Mac_execute_60 (by decide) rfl ?_
        refine z_iinc (lv' := [(0, _), (1, _), (4, _), (2, _), (3, _)]) d_Mac_execute_61 (by decide) rfl (show _ + Int32.ofInt 1 = nI (i + 1) from nI_1 _) rfl ?_
        refine z_goto d_Mac_execute_64 8 (by decide) ?_
        exact z_loc (lv' := [(0, .ref 1), (1, .int (nI F)), (2, .int (nI a1)), (3, .int (nI (i + 1)))]) (by simp) (ih (i + 1) a1 J1 G1 (by omega) ha1 hs1 hx1)
      · refine z_iload_n d_Mac_execute_8 rfl ?_
        refine z_iload_n d_Mac_execute_9 rfl ?_
        refine z_icmp_ge d_Mac_execute_10 67 (by decide) (fun h9 => absurd h9 (nI_ge (show i < F by omega) (by omega))) (fun _ => ?_)
        refine z_iload_n d_Mac_execute_13 rfl ?_
        refine z_aload_n d_Mac_execute_14 rfl ?_
        refine z_get d_Mac_execute_15 f_Mac_21 (by omega) rfl rfl ?_
        refine z_get d_Mac_execute_18 f_Mac_55 (by omega) rfl rfl ?_
        refine z_icmp_ge d_Mac_execute_21 67 (by decide) (fun h9 => absurd h9 (by rw [hs]; exact nI_ge hlt (by omega))) (fun _ => ?_)
        refine z_aload_n d_Mac_execute_24 rfl ?_
        refine z_get d_Mac_execute_25 f_Mac_21 (by omega) rfl rfl ?_
        refine z_iload_n d_Mac_execute_28 rfl ?_
        refine z_iconst (v := 0) d_Mac_execute_29 (by decide) ?_
        refine z_callV1 d_Mac_execute_30 g_Mac_58 (c_Pro_word (w := 0) X (show a < 60 by omega) (by decide) J G) (by omega) rfl rfl rfl ⟨by decide, by decide, by decide, by decide⟩ rfl (Nat.le_of_ble_eq_true rfl) ?_
        rw [show J 16 (4 * a + 0) = nI o from ho]
        refine z_istore (lv' := [(0, _), (1, _), (2, _), (3, _), (4, _)]) d_Mac_execute_33 (by decide) rfl ?_
        refine z_iload d_Mac_execute_35 rfl ?_
        refine z_callS1 d_Mac_execute_37 g_Mac_62 (c_Op_needs X ho22 J G) rfl ⟨by decide, by decide, by decide, by decide⟩ rfl (Nat.le_of_ble_eq_true rfl) ?_
        refine z_if_eq d_Mac_execute_40 53 (by decide) (fun h9 => absurd h9 (show ¬ zb (zNd o) = 0 by rw [hnd]; decide)) (fun _ => ?_)
        refine z_aload_n d_Mac_execute_43 rfl ?_
        refine z_iload d_Mac_execute_44 rfl ?_
        refine z_iload_n d_Mac_execute_46 rfl ?_
        refine z_callV1 d_Mac_execute_47 g_Mac_68 (hu hnd) (by omega) rfl rfl rfl ⟨by decide, by decide, by decide, by decide⟩ rfl (Nat.le_of_ble_eq_true rfl) ?_
        refine z_goto d_Mac_execute_50 60 (by decide) ?_
        refine z_istore_n (lv' := [(0, _), (1, _), (3, _), (4, _), (2, _)]) d_Mac_execute_60 (by decide) rfl ?_
        refine z_iinc (lv' := [(0, _), (1, _), (4, _), (2, _), (3, _)]) d_Mac_execute_61 (by decide) rfl (show _ + Int32.ofInt 1 = nI (i + 1) from nI_1 _) rfl ?_
        refine z_goto d_Mac_execute_64 8 (by decide) ?_
        exact z_loc (lv' := [(0, .ref 1), (1, .int (nI F)), (2, .int (nI a1)), (3, .int (nI (i + 1)))]) (by simp) (ih (i + 1) a1 J1 G1 (by omega) ha1 hs1 hx1)
set_option maxRecDepth 100000 in
set_option maxHeartbeats 4000000 in
theorem c_Mac_execute (X : zX) {N F a' : Nat} (hN : N ≤ 60) (hF : F ≤ 4000) {J' : zJT} {G' : zGT} (J : zJT) (G : zGT) (hs : zrsJ J 15 0 = nI N) (hx : zEx X N F 0 (zrsJ J) (zrsG G) a' J' G') : zK X 5 m_Mac_execute [.ref 1, .int (nI F)] J G (some (.int (if a' < N then 1 else J' 1 5))) J' G' := by
  refine zC_of (by decide) (Nat.le_of_ble_eq_true rfl) ?_
  refine z_aload_n d_Mac_execute_0 rfl ?_
  refine z_callV0 d_Mac_execute_1 g_Mac_52 (c_Mac_reset X J G) (by omega) rfl rfl rfl ⟨by decide, by decide, by decide, by decide⟩ rfl (Nat.le_of_ble_eq_true rfl) ?_
  refine z_iconst (v := 0) d_Mac_execute_4 (by decide) ?_
  refine z_istore_n (lv' := [(0, _), (1, _), (2, _)]) d_Mac_execute_5 (by decide) rfl ?_
  refine z_iconst (v := 0) d_Mac_execute_6 (by decide) ?_
  refine z_istore_n (lv' := [(0, _), (1, _), (2, _), (3, _)]) d_Mac_execute_7 (by decide) rfl ?_
  exact z_loc (lv' := [(0, .ref 1), (1, .int (nI F)), (2, .int (nI 0)), (3, .int (nI 0))]) (by simp [nI_0]) (l_Mac_execute X hN hF F 0 0 _ _ (by omega) (by omega) hs hx)
end
section
/-- programs as lists of instructions -/
abbrev zI4 : Type := Int32 × Int32 × Int32 × Int32
def zi4 (x : zI4) (w : Nat) : Int32 := match w with
  | 0 => x.1
  | 1 => x.2.1
  | 2 => x.2.2.1
  | _ => x.2.2.2
def zpw (f : Nat → Int32) (L : List zI4) : Nat → Int32 := fun j => match L[j / 4]? with
  | some x => zi4 x (j % 4)
  | none => f j
theorem zpw_app (f : Nat → Int32) (L : List zI4) (o p q s : Int32) : zapp (zpw f L) L.length o p q s = zpw f (L ++ [(o, p, q, s)]) := by
  funext j
  simp only [zapp, upd, zpw]
  by_cases h : j / 4 < L.length
  · rw [List.getElem?_append_left h, if_neg (by omega), if_neg (by omega), if_neg (by omega), if_neg (by omega)]
  · by_cases h4 : j / 4 = L.length
    · rw [List.getElem?_append_right (by omega), h4, Nat.sub_self]
      rcases (show j % 4 = 0 ∨ j % 4 = 1 ∨ j % 4 = 2 ∨ j % 4 = 3 by omega) with h5 | h5 | h5 | h5
      · rw [if_neg (by omega), if_neg (by omega), if_neg (by omega), if_pos (by omega), h5]; rfl
      · rw [if_neg (by omega), if_neg (by omega), if_pos (by omega), h5]; rfl
      · rw [if_neg (by omega), if_pos (by omega), h5]; rfl
      · rw [if_pos (by omega), h5]; rfl
    · rw [if_neg (by omega), if_neg (by omega), if_neg (by omega), if_neg (by omega), List.getElem?_eq_none (by omega), List.getElem?_eq_none (by rw [List.length_append]; simp only [List.length_cons, List.length_nil]; omega)]
/-- the heap J with the program L -/
def zwr (J : zJT) (L : List zI4) : zJT := va_up (va_up J 16 (zpw (J 16) L)) 15 (va_up (J 15) 0 (nI L.length))
theorem zwr_sz (J : zJT) (L : List zI4) : zwr J L 15 0 = nI L.length := by rw [zwr, zu_s, zu_s]
theorem zwr_n (J : zJT) (L : List zI4) {a : Nat} (h : a ≠ 15 ∧ a ≠ 16) : zwr J L a = J a := by rw [zwr, zu_n h.1, zu_n h.2]
theorem c_app (X : zX) (J : zJT) (G : zGT) (L : List zI4) (hL : L.length < 60) (o p q s : Int32) : zK X 0 m_Pro_append [.ref 15, .int o, .int p, .int q, .int s] (zwr J L) G none (zwr J (L ++ [(o, p, q, s)])) G := by
  have h := c_Pro_append X hL o p q s (zwr J L) G (zwr_sz J L)
  have e : va_up (va_up (zwr J L) 16 (zapp (zwr J L 16) L.length o p q s)) 15 (va_up (zwr J L 15) 0 (nI L.length + 1)) = zwr J (L ++ [(o, p, q, s)]) := by
    have h16 : zwr J L 16 = zpw (J 16) L := by rw [zwr, zu_n (by decide), zu_s]
    have h15 : va_up (zwr J L 15) 0 (nI L.length + 1) = va_up (J 15) 0 (nI (L ++ [(o, p, q, s)]).length) := by
      rw [zwr, zu_s, bx_uu, List.length_append, nI_1]; rfl
    rw [h16, h15, zpw_app]
    funext a
    by_cases h1 : a = 15
    · subst h1; rw [zu_s, zwr, zu_s]
    · rw [zu_n h1]
      by_cases h2 : a = 16
      · subst h2; rw [zu_s, zwr, zu_n h1, zu_s]
      · rw [zu_n h2, zwr_n J L ⟨h1, h2⟩, zwr_n J _ ⟨h1, h2⟩]
  rw [e] at h
  exact h
/-- the writers, as lists -/
def qCol (c k r : Int32) : zI4 := if k = -1 then (5, c, r, 0) else (4, c, k, r)
def qTest (L : List zI4) (o right next : Int32) : List zI4 := L ++ [(o, 0, nI L.length + 2, right)] ++ [(19, next, 0, 0)]
def qCond (J : zJT) (i : Nat) (next : Int32) (L : List zI4) : List zI4 :=
  if J 38 i < 6 then qTest (L ++ [qCol (J 36 i) (J 37 i) 0] ++ [(6, J 39 i, 1, 0)]) (9 + J 38 i) 1 next else qTest (L ++ [qCol (J 36 i) (J 37 i) 0]) (9 + J 38 i) 0 next
def qConds (J : zJT) (c next : Int32) : Nat → List zI4 → List zI4
  | 0, L => L
  | m + 1, L => if J 36 m = c then qCond J m next (qConds J c next m L) else qConds J c next m L
def qOuts (J : zJT) : Nat → List zI4 → List zI4
  | 0, L => L
  | m + 1, L => qOuts J m L ++ [qCol (J 34 m) (J 35 m) (2 + nI m)]
theorem qTest_l (L : List zI4) (o r n : Int32) : (qTest L o r n).length = L.length + 2 := by simp [qTest]
theorem qCond_l (J : zJT) (i : Nat) (n : Int32) (L : List zI4) : (qCond J i n L).length ≤ L.length + 4 ∧ L.length ≤ (qCond J i n L).length := by
  unfold qCond; split <;> simp [qTest_l] <;> omega
theorem qConds_l (J : zJT) (c n : Int32) (m : Nat) (L : List zI4) : (qConds J c n m L).length ≤ L.length + 4 * m ∧ L.length ≤ (qConds J c n m L).length := by
  induction m with
  | zero => simp [qConds]
  | succ m ih =>
    simp only [qConds]
    split
    · have h := qCond_l J m n (qConds J c n m L); omega
    · omega
theorem qOuts_l (J : zJT) (m : Nat) (L : List zI4) : (qOuts J m L).length = L.length + m := by
  induction m with
  | zero => simp [qOuts]
  | succ m ih => simp [qOuts, ih]; omega
set_option maxRecDepth 100000 in
set_option maxHeartbeats 4000000 in
theorem c_Que_writeColumn (X : zX) (J : zJT) (G : zGT) (L : List zI4) (hL : L.length < 60) (c k r : Int32) : zK X 1 m_Que_writeColumn [.ref 32, .ref 15, .int c, .int k, .int r] (zwr J L) G none (zwr J (L ++ [qCol c k r])) G := by
  refine zC_of (by decide) (Nat.le_of_ble_eq_true rfl) ?_
  refine z_iload_n d_Que_writeColumn_0 rfl ?_
  refine z_iconst (v := (-1)) d_Que_writeColumn_1 (by decide) ?_
  refine z_icmp_ne d_Que_writeColumn_2 17 (by decide) (fun h2 => ?_) (fun h2 => ?_)
  · refine z_aload_n d_Que_writeColumn_17 rfl ?_
    refine z_iconst (v := 4) d_Que_writeColumn_18 (by decide) ?_
    refine z_iload_n d_Que_writeColumn_19 rfl ?_
    refine z_iload_n d_Que_writeColumn_20 rfl ?_
    refine z_iload d_Que_writeColumn_21 rfl ?_
    refine z_callV0 d_Que_writeColumn_23 g_Que_64 (c_app X J G L (by first | omega | (simp only [List.length_append, List.length_cons, List.length_nil, qTest_l]; omega)) 4 c k r) (by omega) rfl rfl rfl ⟨by decide, by decide, by decide, by decide⟩ rfl (Nat.le_of_ble_eq_true rfl) ?_
    exact z_vret d_Que_writeColumn_26 rfl (by decide) (by decide) (by rw [qCol, if_neg h2])
  · refine z_aload_n d_Que_writeColumn_5 rfl ?_
    refine z_iconst (v := 5) d_Que_writeColumn_6 (by decide) ?_
    refine z_iload_n d_Que_writeColumn_7 rfl ?_
    refine z_iload d_Que_writeColumn_8 rfl ?_
    refine z_iconst (v := 0) d_Que_writeColumn_10 (by decide) ?_
    refine z_callV0 d_Que_writeColumn_11 g_Que_64 (c_app X J G L (by first | omega | (simp only [List.length_append, List.length_cons, List.length_nil, qTest_l]; omega)) 5 c r 0) (by omega) rfl rfl rfl ⟨by decide, by decide, by decide, by decide⟩ rfl (Nat.le_of_ble_eq_true rfl) ?_
    refine z_goto d_Que_writeColumn_14 26 (by decide) ?_
    exact z_vret d_Que_writeColumn_26 rfl (by decide) (by decide) (by rw [qCol, if_pos h2])
set_option maxRecDepth 100000 in
set_option maxHeartbeats 4000000 in
theorem c_Que_writeTest (X : zX) (J : zJT) (G : zGT) (L : List zI4) (hL : L.length + 2 ≤ 60) (o r n : Int32) : zK X 1 m_Que_writeTest [.ref 32, .ref 15, .int o, .int r, .int n] (zwr J L) G none (zwr J (qTest L o r n)) G := by
  refine zC_of (by decide) (Nat.le_of_ble_eq_true rfl) ?_
  refine z_aload_n d_Que_writeTest_0 rfl ?_
  refine z_iload_n d_Que_writeTest_1 rfl ?_
  refine z_iconst (v := 0) d_Que_writeTest_2 (by decide) ?_
  refine z_aload_n d_Que_writeTest_3 rfl ?_
  refine z_get d_Que_writeTest_4 f_Que_57 (by omega) rfl rfl ?_
  refine z_iconst (v := 2) d_Que_writeTest_7 (by decide) ?_
  refine z_iadd d_Que_writeTest_8 ?_
  refine z_iload_n d_Que_writeTest_9 rfl ?_
  rw [zwr_sz]
  refine z_callV0 d_Que_writeTest_10 g_Que_64 (c_app X J G L (by first | omega | (simp only [List.length_append, List.length_cons, List.length_nil, qTest_l]; omega)) o 0 (nI L.length + 2) r) (by omega) rfl rfl rfl ⟨by decide, by decide, by decide, by decide⟩ rfl (Nat.le_of_ble_eq_true rfl) ?_
  refine z_aload_n d_Que_writeTest_13 rfl ?_
  refine z_bipush (v := 19) d_Que_writeTest_14 (by decide) ?_
  refine z_iload d_Que_writeTest_16 rfl ?_
  refine z_iconst (v := 0) d_Que_writeTest_18 (by decide) ?_
  refine z_iconst (v := 0) d_Que_writeTest_19 (by decide) ?_
  refine z_callV0 d_Que_writeTest_20 g_Que_64 (c_app X J G _ (by first | omega | (simp only [List.length_append, List.length_cons, List.length_nil, qTest_l]; omega)) 19 n 0 0) (by omega) rfl rfl rfl ⟨by decide, by decide, by decide, by decide⟩ rfl (Nat.le_of_ble_eq_true rfl) ?_
  exact z_vret d_Que_writeTest_23 rfl (by decide) (by decide) rfl
set_option maxRecDepth 100000 in
set_option maxHeartbeats 4000000 in
theorem c_Que_writeCond1 (X : zX) (J : zJT) (G : zGT) (L : List zI4) (hL : L.length + 4 ≤ 60) {i : Nat} (hi : i < 4) (n : Int32) (h6 : J 38 i < 6) : zK X 2 m_Que_writeCondition [.ref 32, .ref 15, .int (nI i), .int n] (zwr J L) G none (zwr J (qCond J i n L)) G := by
  refine zC_of (by decide) (Nat.le_of_ble_eq_true rfl) ?_
  refine z_aload_n d_Que_writeCondition_0 rfl ?_
  refine z_aload_n d_Que_writeCondition_1 rfl ?_
  refine z_aload_n d_Que_writeCondition_2 rfl ?_
  refine z_get d_Que_writeCondition_3 f_Que_31 (by omega) rfl rfl ?_
  refine z_iload_n d_Que_writeCondition_6 rfl ?_
  refine z_iald d_Que_writeCondition_7 (by omega) rfl (show zin (nI i) i 4 from ⟨rfl, hi, by decide⟩) ?_
  refine z_aload_n d_Que_writeCondition_8 rfl ?_
  refine z_get d_Que_writeCondition_9 f_Que_34 (by omega) rfl rfl ?_
  refine z_iload_n d_Que_writeCondition_12 rfl ?_
  refine z_iald d_Que_writeCondition_13 (by omega) rfl (show zin (nI i) i 4 from ⟨rfl, hi, by decide⟩) ?_
  refine z_iconst (v := 0) d_Que_writeCondition_14 (by decide) ?_
  rw [zwr_n J _ (show (36 : Nat) ≠ 15 ∧ (36 : Nat) ≠ 16 by decide), zwr_n J _ (show (37 : Nat) ≠ 15 ∧ (37 : Nat) ≠ 16 by decide)]
  refine z_callV0 d_Que_writeCondition_15 g_Que_97 (c_Que_writeColumn X J G L (by omega) _ _ _) (by omega) rfl rfl rfl ⟨by decide, by decide, by decide, by decide⟩ rfl (Nat.le_of_ble_eq_true rfl) ?_
  refine z_bipush (v := 9) d_Que_writeCondition_18 (by decide) ?_
  refine z_aload_n d_Que_writeCondition_20 rfl ?_
  refine z_get d_Que_writeCondition_21 f_Que_37 (by omega) rfl rfl ?_
  refine z_iload_n d_Que_writeCondition_24 rfl ?_
  refine z_iald d_Que_writeCondition_25 (by omega) rfl (show zin (nI i) i 4 from ⟨rfl, hi, by decide⟩) ?_
  refine z_iadd d_Que_writeCondition_26 ?_
  rw [zwr_n J _ (show (38 : Nat) ≠ 15 ∧ (38 : Nat) ≠ 16 by decide)]
  refine z_istore (lv' := [(0, _), (1, _), (2, _), (3, _), (4, _)]) d_Que_writeCondition_27 (by decide) rfl ?_
  refine z_aload_n d_Que_writeCondition_29 rfl ?_
  refine z_get d_Que_writeCondition_30 f_Que_37 (by omega) rfl rfl ?_
  refine z_iload_n d_Que_writeCondition_33 rfl ?_
  refine z_iald d_Que_writeCondition_34 (by omega) rfl (show zin (nI i) i 4 from ⟨rfl, hi, by decide⟩) ?_
  refine z_bipush (v := 6) d_Que_writeCondition_35 (by decide) ?_
  rw [zwr_n J _ (show (38 : Nat) ≠ 15 ∧ (38 : Nat) ≠ 16 by decide)]
  refine z_icmp_ge d_Que_writeCondition_37 66 (by decide) (fun h9 => absurd h9 (fun h9 => absurd h6 (Int32.not_lt.mpr h9))) (fun _ => ?_)
  refine z_aload_n d_Que_writeCondition_40 rfl ?_
  refine z_bipush (v := 6) d_Que_writeCondition_41 (by decide) ?_
  refine z_aload_n d_Que_writeCondition_43 rfl ?_
  refine z_get d_Que_writeCondition_44 f_Que_40 (by omega) rfl rfl ?_
  refine z_iload_n d_Que_writeCondition_47 rfl ?_
  refine z_iald d_Que_writeCondition_48 (by omega) rfl (show zin (nI i) i 4 from ⟨rfl, hi, by decide⟩) ?_
  refine z_iconst (v := 1) d_Que_writeCondition_49 (by decide) ?_
  refine z_iconst (v := 0) d_Que_writeCondition_50 (by decide) ?_
  rw [zwr_n J _ (show (39 : Nat) ≠ 15 ∧ (39 : Nat) ≠ 16 by decide)]
  refine z_callV0 d_Que_writeCondition_51 g_Que_64 (c_app X J G _ (by first | omega | (simp only [List.length_append, List.length_cons, List.length_nil, qTest_l]; omega)) 6 (J 39 i) 1 0) (by omega) rfl rfl rfl ⟨by decide, by decide, by decide, by decide⟩ rfl (Nat.le_of_ble_eq_true rfl) ?_
  refine z_aload_n d_Que_writeCondition_54 rfl ?_
  refine z_aload_n d_Que_writeCondition_55 rfl ?_
  refine z_iload d_Que_writeCondition_56 rfl ?_
  refine z_iconst (v := 1) d_Que_writeCondition_58 (by decide) ?_
  refine z_iload_n d_Que_writeCondition_59 rfl ?_
  refine z_callV0 d_Que_writeCondition_60 g_Que_101 (c_Que_writeTest X J G _ (by simp only [List.length_append, List.length_cons, List.length_nil]; omega) _ _ _) (by omega) rfl rfl rfl ⟨by decide, by decide, by decide, by decide⟩ rfl (Nat.le_of_ble_eq_true rfl) ?_
  refine z_goto d_Que_writeCondition_63 75 (by decide) ?_
  exact z_vret d_Que_writeCondition_75 rfl (by decide) (by decide) (by rw [qCond, if_pos h6])
set_option maxRecDepth 100000 in
set_option maxHeartbeats 4000000 in
theorem c_Que_writeCond0 (X : zX) (J : zJT) (G : zGT) (L : List zI4) (hL : L.length + 4 ≤ 60) {i : Nat} (hi : i < 4) (n : Int32) (h6 : ¬ J 38 i < 6) : zK X 2 m_Que_writeCondition [.ref 32, .ref 15, .int (nI i), .int n] (zwr J L) G none (zwr J (qCond J i n L)) G := by
  refine zC_of (by decide) (Nat.le_of_ble_eq_true rfl) ?_
  refine z_aload_n d_Que_writeCondition_0 rfl ?_
  refine z_aload_n d_Que_writeCondition_1 rfl ?_
  refine z_aload_n d_Que_writeCondition_2 rfl ?_
  refine z_get d_Que_writeCondition_3 f_Que_31 (by omega) rfl rfl ?_
  refine z_iload_n d_Que_writeCondition_6 rfl ?_
  refine z_iald d_Que_writeCondition_7 (by omega) rfl (show zin (nI i) i 4 from ⟨rfl, hi, by decide⟩) ?_
  refine z_aload_n d_Que_writeCondition_8 rfl ?_
  refine z_get d_Que_writeCondition_9 f_Que_34 (by omega) rfl rfl ?_
  refine z_iload_n d_Que_writeCondition_12 rfl ?_
  refine z_iald d_Que_writeCondition_13 (by omega) rfl (show zin (nI i) i 4 from ⟨rfl, hi, by decide⟩) ?_
  refine z_iconst (v := 0) d_Que_writeCondition_14 (by decide) ?_
  rw [zwr_n J _ (show (36 : Nat) ≠ 15 ∧ (36 : Nat) ≠ 16 by decide), zwr_n J _ (show (37 : Nat) ≠ 15 ∧ (37 : Nat) ≠ 16 by decide)]
  refine z_callV0 d_Que_writeCondition_15 g_Que_97 (c_Que_writeColumn X J G L (by omega) _ _ _) (by omega) rfl rfl rfl ⟨by decide, by decide, by decide, by decide⟩ rfl (Nat.le_of_ble_eq_true rfl) ?_
  refine z_bipush (v := 9) d_Que_writeCondition_18 (by decide) ?_
  refine z_aload_n d_Que_writeCondition_20 rfl ?_
  refine z_get d_Que_writeCondition_21 f_Que_37 (by omega) rfl rfl ?_
  refine z_iload_n d_Que_writeCondition_24 rfl ?_
  refine z_iald d_Que_writeCondition_25 (by omega) rfl (show zin (nI i) i 4 from ⟨rfl, hi, by decide⟩) ?_
  refine z_iadd d_Que_writeCondition_26 ?_
  rw [zwr_n J _ (show (38 : Nat) ≠ 15 ∧ (38 : Nat) ≠ 16 by decide)]
  refine z_istore (lv' := [(0, _), (1, _), (2, _), (3, _), (4, _)]) d_Que_writeCondition_27 (by decide) rfl ?_
  refine z_aload_n d_Que_writeCondition_29 rfl ?_
  refine z_get d_Que_writeCondition_30 f_Que_37 (by omega) rfl rfl ?_
  refine z_iload_n d_Que_writeCondition_33 rfl ?_
  refine z_iald d_Que_writeCondition_34 (by omega) rfl (show zin (nI i) i 4 from ⟨rfl, hi, by decide⟩) ?_
  refine z_bipush (v := 6) d_Que_writeCondition_35 (by decide) ?_
  rw [zwr_n J _ (show (38 : Nat) ≠ 15 ∧ (38 : Nat) ≠ 16 by decide)]
  refine z_icmp_ge d_Que_writeCondition_37 66 (by decide) (fun _ => ?_) (fun h9 => absurd (Int32.not_lt.mp h6) h9)
  refine z_aload_n d_Que_writeCondition_66 rfl ?_
  refine z_aload_n d_Que_writeCondition_67 rfl ?_
  refine z_iload d_Que_writeCondition_68 rfl ?_
  refine z_iconst (v := 0) d_Que_writeCondition_70 (by decide) ?_
  refine z_iload_n d_Que_writeCondition_71 rfl ?_
  refine z_callV0 d_Que_writeCondition_72 g_Que_101 (c_Que_writeTest X J G _ (by simp only [List.length_append, List.length_cons, List.length_nil]; omega) _ _ _) (by omega) rfl rfl rfl ⟨by decide, by decide, by decide, by decide⟩ rfl (Nat.le_of_ble_eq_true rfl) ?_
  exact z_vret d_Que_writeCondition_75 rfl (by decide) (by decide) (by rw [qCond, if_neg h6])
theorem c_Que_writeCondition (X : zX) (J : zJT) (G : zGT) (L : List zI4) (hL : L.length + 4 ≤ 60) {i : Nat} (hi : i < 4) (n : Int32) : zK X 2 m_Que_writeCondition [.ref 32, .ref 15, .int (nI i), .int n] (zwr J L) G none (zwr J (qCond J i n L)) G := by
  by_cases h6 : J 38 i < 6
  · exact c_Que_writeCond1 X J G L hL hi n h6
  · exact c_Que_writeCond0 X J G L hL hi n h6
end
section
set_option maxRecDepth 100000 in
set_option maxHeartbeats 4000000 in
theorem l_Que_conds (X : zX) (J : zJT) (G : zGT) (L : List zI4) {m : Nat} (hm : J 32 2 = nI m) (hm4 : m ≤ 4) (hL : L.length + 4 * m ≤ 60) (c n : Int32) : ∀ rem i, m - i = rem → i ≤ m → zJ X (zR 3 0 0) m_Que_writeConditions (zRet X 0 0 false none (hp (zwr J (qConds J c n m L)) G) 60) false 0 0 (hp (zwr J (qConds J c n i L)) G) 60 3 [(0, .ref 32), (1, .ref 15), (2, .int c), (3, .int n), (4, .int (nI i))] [] := by
  intro rem
  induction rem with
  | zero =>
    intro i hr hi
    rw [show i = m by omega]
    refine z_iload d_Que_writeConditions_3 rfl ?_
    refine z_aload_n d_Que_writeConditions_5 rfl ?_
    refine z_get d_Que_writeConditions_6 f_Que_19 (by omega) rfl rfl ?_
    refine z_icmp_ge d_Que_writeConditions_9 37 (by decide) (fun _ => ?_) (fun h9 => absurd (by rw [zwr_n J _ (show (32 : Nat) ≠ 15 ∧ (32 : Nat) ≠ 16 by decide), hm]; exact nI_le (Nat.le_refl _) (by omega)) h9)
    exact z_vret d_Que_writeConditions_37 rfl (by decide) (by decide) rfl
  | succ rem ih =>
    intro i hr hi
    by_cases hq : J 36 i = c
    · refine z_iload d_Que_writeConditions_3 rfl ?_
      refine z_aload_n d_Que_writeConditions_5 rfl ?_
      refine z_get d_Que_writeConditions_6 f_Que_19 (by omega) rfl rfl ?_
      refine z_icmp_ge d_Que_writeConditions_9 37 (by decide) (fun h9 => absurd h9 (by rw [zwr_n J _ (show (32 : Nat) ≠ 15 ∧ (32 : Nat) ≠ 16 by decide), hm]; exact nI_ge (show i < m by omega) (by omega))) (fun _ => ?_)
      refine z_aload_n d_Que_writeConditions_12 rfl ?_
      refine z_get d_Que_writeConditions_13 f_Que_31 (by omega) rfl rfl ?_
      refine z_iload d_Que_writeConditions_16 rfl ?_
      refine z_iald d_Que_writeConditions_18 (by omega) rfl (show zin (nI i) i 4 from ⟨rfl, by omega, by decide⟩) ?_
      refine z_iload_n d_Que_writeConditions_19 rfl ?_
      rw [zwr_n J _ (show (36 : Nat) ≠ 15 ∧ (36 : Nat) ≠ 16 by decide)]
      refine z_icmp_ne d_Que_writeConditions_20 31 (by decide) (fun h9 => absurd h9 (fun h9 => h9 hq)) (fun _ => ?_)
      refine z_aload_n d_Que_writeConditions_23 rfl ?_
      refine z_aload_n d_Que_writeConditions_24 rfl ?_
      refine z_iload d_Que_writeConditions_25 rfl ?_
      refine z_iload_n d_Que_writeConditions_27 rfl ?_
      refine z_callV0 d_Que_writeConditions_28 g_Que_94 (c_Que_writeCondition X J G _ (by have := (qConds_l J c n i L).1; omega) (by omega) n) (by omega) rfl rfl rfl ⟨by decide, by decide, by decide, by decide⟩ rfl (Nat.le_of_ble_eq_true rfl) ?_
      refine z_iinc (lv' := [(0, _), (1, _), (2, _), (3, _), (4, _)]) d_Que_writeConditions_31 (by decide) rfl (show _ + Int32.ofInt 1 = nI (i + 1) from nI_1 _) rfl ?_
      refine z_goto d_Que_writeConditions_34 3 (by decide) ?_
      refine z_heq (h' := hp (zwr J (qConds J c n (i + 1) L)) G) ?_ (ih (i + 1) (by omega) (by omega))
      rw [qConds, if_pos hq]
    · refine z_iload d_Que_writeConditions_3 rfl ?_
      refine z_aload_n d_Que_writeConditions_5 rfl ?_
      refine z_get d_Que_writeConditions_6 f_Que_19 (by omega) rfl rfl ?_
      refine z_icmp_ge d_Que_writeConditions_9 37 (by decide) (fun h9 => absurd h9 (by rw [zwr_n J _ (show (32 : Nat) ≠ 15 ∧ (32 : Nat) ≠ 16 by decide), hm]; exact nI_ge (show i < m by omega) (by omega))) (fun _ => ?_)
      refine z_aload_n d_Que_writeConditions_12 rfl ?_
      refine z_get d_Que_writeConditions_13 f_Que_31 (by omega) rfl rfl ?_
      refine z_iload d_Que_writeConditions_16 rfl ?_
      refine z_iald d_Que_writeConditions_18 (by omega) rfl (show zin (nI i) i 4 from ⟨rfl, by omega, by decide⟩) ?_
      refine z_iload_n d_Que_writeConditions_19 rfl ?_
      rw [zwr_n J _ (show (36 : Nat) ≠ 15 ∧ (36 : Nat) ≠ 16 by decide)]
      refine z_icmp_ne d_Que_writeConditions_20 31 (by decide) (fun _ => ?_) (fun h9 => absurd h9 hq)
      refine z_iinc (lv' := [(0, _), (1, _), (2, _), (3, _), (4, _)]) d_Que_writeConditions_31 (by decide) rfl (show _ + Int32.ofInt 1 = nI (i + 1) from nI_1 _) rfl ?_
      refine z_goto d_Que_writeConditions_34 3 (by decide) ?_
      refine z_heq (h' := hp (zwr J (qConds J c n (i + 1) L)) G) ?_ (ih (i + 1) (by omega) (by omega))
      rw [qConds, if_neg hq]
set_option maxRecDepth 100000 in
set_option maxHeartbeats 4000000 in
theorem c_Que_conds (X : zX) (J : zJT) (G : zGT) (L : List zI4) {m : Nat} (hm : J 32 2 = nI m) (hm4 : m ≤ 4) (hL : L.length + 4 * m ≤ 60) (c n : Int32) : zK X 3 m_Que_writeConditions [.ref 32, .ref 15, .int c, .int n] (zwr J L) G none (zwr J (qConds J c n m L)) G := by
  refine zC_of (by decide) (Nat.le_of_ble_eq_true rfl) ?_
  refine z_iconst (v := 0) d_Que_writeConditions_0 (by decide) ?_
  refine z_istore (lv' := [(0, _), (1, _), (2, _), (3, _), (4, _)]) d_Que_writeConditions_1 (by decide) rfl ?_
  exact z_loc (lv' := [(0, .ref 32), (1, .ref 15), (2, .int c), (3, .int n), (4, .int (nI 0))]) (by simp [nI_0]) (l_Que_conds X J G L hm hm4 hL c n m 0 (by omega) (by omega))
set_option maxRecDepth 100000 in
set_option maxHeartbeats 4000000 in
theorem l_Que_outs (X : zX) (J : zJT) (G : zGT) (L : List zI4) {m : Nat} (hm : J 32 1 = nI m) (hm4 : m ≤ 4) (hL : L.length + m + 1 ≤ 60) : ∀ rem i, m - i = rem → i ≤ m → zJ X (zR 2 0 0) m_Que_writeOutputs (zRet X 0 0 false none (hp (zwr J (qOuts J m L ++ [(18, 2, nI m, 0)])) G) 60) false 0 0 (hp (zwr J (qOuts J i L)) G) 60 2 [(0, .ref 32), (1, .ref 15), (2, .int (nI i))] [] := by
  intro rem
  induction rem with
  | zero =>
    intro i hr hi
    rw [show i = m by omega]
    refine z_iload_n d_Que_writeOutputs_2 rfl ?_
    refine z_aload_n d_Que_writeOutputs_3 rfl ?_
    refine z_get d_Que_writeOutputs_4 f_Que_15 (by omega) rfl rfl ?_
    refine z_icmp_ge d_Que_writeOutputs_7 36 (by decide) (fun _ => ?_) (fun h9 => absurd (by rw [zwr_n J _ (show (32 : Nat) ≠ 15 ∧ (32 : Nat) ≠ 16 by decide), hm]; exact nI_le (Nat.le_refl _) (by omega)) h9)
    refine z_aload_n d_Que_writeOutputs_36 rfl ?_
    refine z_bipush (v := 18) d_Que_writeOutputs_37 (by decide) ?_
    refine z_iconst (v := 2) d_Que_writeOutputs_39 (by decide) ?_
    refine z_aload_n d_Que_writeOutputs_40 rfl ?_
    refine z_get d_Que_writeOutputs_41 f_Que_15 (by omega) rfl rfl ?_
    refine z_iconst (v := 0) d_Que_writeOutputs_44 (by decide) ?_
    rw [zwr_n J _ (show (32 : Nat) ≠ 15 ∧ (32 : Nat) ≠ 16 by decide), hm]
    refine z_callV0 d_Que_writeOutputs_45 g_Que_64 (c_app X J G _ (by rw [qOuts_l]; omega) 18 2 (nI m) 0) (by omega) rfl rfl rfl ⟨by decide, by decide, by decide, by decide⟩ rfl (Nat.le_of_ble_eq_true rfl) ?_
    exact z_vret d_Que_writeOutputs_48 rfl (by decide) (by decide) rfl
  | succ rem ih =>
    intro i hr hi
    refine z_iload_n d_Que_writeOutputs_2 rfl ?_
    refine z_aload_n d_Que_writeOutputs_3 rfl ?_
    refine z_get d_Que_writeOutputs_4 f_Que_15 (by omega) rfl rfl ?_
    refine z_icmp_ge d_Que_writeOutputs_7 36 (by decide) (fun h9 => absurd h9 (by rw [zwr_n J _ (show (32 : Nat) ≠ 15 ∧ (32 : Nat) ≠ 16 by decide), hm]; exact nI_ge (show i < m by omega) (by omega))) (fun _ => ?_)
    refine z_aload_n d_Que_writeOutputs_10 rfl ?_
    refine z_aload_n d_Que_writeOutputs_11 rfl ?_
    refine z_aload_n d_Que_writeOutputs_12 rfl ?_
    refine z_get d_Que_writeOutputs_13 f_Que_25 (by omega) rfl rfl ?_
    refine z_iload_n d_Que_writeOutputs_16 rfl ?_
    refine z_iald d_Que_writeOutputs_17 (by omega) rfl (show zin (nI i) i 4 from ⟨rfl, by omega, by decide⟩) ?_
    refine z_aload_n d_Que_writeOutputs_18 rfl ?_
    refine z_get d_Que_writeOutputs_19 f_Que_28 (by omega) rfl rfl ?_
    refine z_iload_n d_Que_writeOutputs_22 rfl ?_
    refine z_iald d_Que_writeOutputs_23 (by omega) rfl (show zin (nI i) i 4 from ⟨rfl, by omega, by decide⟩) ?_
    refine z_iconst (v := 2) d_Que_writeOutputs_24 (by decide) ?_
    refine z_iload_n d_Que_writeOutputs_25 rfl ?_
    refine z_iadd d_Que_writeOutputs_26 ?_
    rw [zwr_n J _ (show (34 : Nat) ≠ 15 ∧ (34 : Nat) ≠ 16 by decide), zwr_n J _ (show (35 : Nat) ≠ 15 ∧ (35 : Nat) ≠ 16 by decide)]
    refine z_callV0 d_Que_writeOutputs_27 g_Que_97 (c_Que_writeColumn X J G _ (by rw [qOuts_l]; omega) _ _ _) (by omega) rfl rfl rfl ⟨by decide, by decide, by decide, by decide⟩ rfl (Nat.le_of_ble_eq_true rfl) ?_
    refine z_iinc (lv' := [(0, _), (1, _), (2, _)]) d_Que_writeOutputs_30 (by decide) rfl (show _ + Int32.ofInt 1 = nI (i + 1) from nI_1 _) rfl ?_
    refine z_goto d_Que_writeOutputs_33 2 (by decide) ?_
    exact ih (i + 1) (by omega) (by omega)
set_option maxRecDepth 100000 in
set_option maxHeartbeats 4000000 in
theorem c_Que_outs (X : zX) (J : zJT) (G : zGT) (L : List zI4) {m : Nat} (hm : J 32 1 = nI m) (hm4 : m ≤ 4) (hL : L.length + m + 1 ≤ 60) : zK X 2 m_Que_writeOutputs [.ref 32, .ref 15] (zwr J L) G none (zwr J (qOuts J m L ++ [(18, 2, nI m, 0)])) G := by
  refine zC_of (by decide) (Nat.le_of_ble_eq_true rfl) ?_
  refine z_iconst (v := 0) d_Que_writeOutputs_0 (by decide) ?_
  refine z_istore_n (lv' := [(0, _), (1, _), (2, _)]) d_Que_writeOutputs_1 (by decide) rfl ?_
  exact z_loc (lv' := [(0, .ref 32), (1, .ref 15), (2, .int (nI 0))]) (by simp [nI_0]) (l_Que_outs X J G L hm hm4 hL m 0 (by omega) (by omega))
def qfb (v : Int32) : Bool := decide (v = 0) || decide (v = 4) || decide (v = 5)
def qok (J : zJT) (c : Int32) (i : Nat) : Bool := decide (J 36 i = c) && decide (J 37 i = -1) && qfb (J 38 i)
/-- the first of rem conditions from i on by which a search may begin -/
def qsk (J : zJT) (c : Int32) : Nat → Nat → Option Nat
  | 0, _ => none
  | rem + 1, i => if qok J c i = true then some i else qsk J c rem (i + 1)
def qval (r : Option Nat) : Int32 := match r with
  | none => -1
  | some i => nI i
theorem qsk_lt (J : zJT) (c : Int32) : ∀ rem i k, qsk J c rem i = some k → k < i + rem
  | 0, _, _, h => by simp [qsk] at h
  | rem + 1, i, k, h => by
    simp only [qsk] at h
    split at h
    · cases h; omega
    · have := qsk_lt J c rem (i + 1) k h; omega
theorem qsk_wr (J : zJT) (L : List zI4) (c : Int32) : ∀ rem i, qsk (zwr J L) c rem i = qsk J c rem i
  | 0, _ => rfl
  | rem + 1, i => by
    have e : qok (zwr J L) c i = qok J c i := by
      unfold qok
      rw [zwr_n J L (show (36 : Nat) ≠ 15 ∧ (36 : Nat) ≠ 16 by decide), zwr_n J L (show (37 : Nat) ≠ 15 ∧ (37 : Nat) ≠ 16 by decide), zwr_n J L (show (38 : Nat) ≠ 15 ∧ (38 : Nat) ≠ 16 by decide)]
    simp only [qsk]
    rw [e, qsk_wr J L c rem]
set_option maxRecDepth 100000 in
set_option maxHeartbeats 4000000 in
theorem c_Que_fb (X : zX) (v : Int32) (J : zJT) (G : zGT) : zK X 0 m_Que_isFromBelow [.int v] J G (some (.int (zb (qfb v)))) J G := by
  refine zC_of (by decide) (Nat.le_of_ble_eq_true rfl) ?_
  refine z_iload_n d_Que_isFromBelow_0 rfl ?_
  refine z_if_eq d_Que_isFromBelow_1 14 (by decide) (fun h1 => ?_) (fun h1 => ?_)
  · refine z_iconst (v := 1) d_Que_isFromBelow_14 (by decide) ?_
    refine z_goto d_Que_isFromBelow_15 19 (by decide) ?_
    exact z_zret d_Que_isFromBelow_19 rfl (by decide) (by decide) (by decide) (by simp only [qfb]; simp_all [zb]) rfl
  · refine z_iload_n d_Que_isFromBelow_4 rfl ?_
    refine z_iconst (v := 4) d_Que_isFromBelow_5 (by decide) ?_
    refine z_icmp_eq d_Que_isFromBelow_6 14 (by decide) (fun h6 => ?_) (fun h6 => ?_)
    · refine z_iconst (v := 1) d_Que_isFromBelow_14 (by decide) ?_
      refine z_goto d_Que_isFromBelow_15 19 (by decide) ?_
      exact z_zret d_Que_isFromBelow_19 rfl (by decide) (by decide) (by decide) (by simp only [qfb]; simp_all [zb]) rfl
    · refine z_iload_n d_Que_isFromBelow_9 rfl ?_
      refine z_iconst (v := 5) d_Que_isFromBelow_10 (by decide) ?_
      refine z_icmp_ne d_Que_isFromBelow_11 18 (by decide) (fun h11 => ?_) (fun h11 => ?_)
      · refine z_iconst (v := 0) d_Que_isFromBelow_18 (by decide) ?_
        exact z_zret d_Que_isFromBelow_19 rfl (by decide) (by decide) (by decide) (by simp only [qfb]; simp_all [zb]) rfl
      · refine z_iconst (v := 1) d_Que_isFromBelow_14 (by decide) ?_
        refine z_goto d_Que_isFromBelow_15 19 (by decide) ?_
        exact z_zret d_Que_isFromBelow_19 rfl (by decide) (by decide) (by decide) (by simp only [qfb]; simp_all [zb]) rfl
set_option maxRecDepth 100000 in
set_option maxHeartbeats 4000000 in
theorem l_Que_seek (X : zX) (J : zJT) (G : zGT) {m : Nat} (hm : J 32 2 = nI m) (hm4 : m ≤ 4) (c : Int32) : ∀ rem i, i + rem = m → i ≤ m → qsk J c rem i = qsk J c m 0 → zJ X (zR 1 0 0) m_Que_seekable (zRet X 0 0 false (some (.int (qval (qsk J c m 0)))) (hp J G) 60) false 0 0 (hp J G) 60 2 [(0, .ref 32), (1, .int c), (2, .int (nI i))] [] := by
  intro rem
  induction rem with
  | zero =>
    intro i hr hi he
    refine z_iload_n d_Que_seekable_2 rfl ?_
    refine z_aload_n d_Que_seekable_3 rfl ?_
    refine z_get d_Que_seekable_4 f_Que_19 (by omega) rfl rfl ?_
    refine z_icmp_ge d_Que_seekable_7 50 (by decide) (fun _ => ?_) (fun h9 => absurd (by rw [hm]; exact nI_le (show m ≤ i by omega) (by omega)) h9)
    refine z_iconst (v := (-1)) d_Que_seekable_50 (by decide) ?_
    exact z_iret d_Que_seekable_51 rfl (by decide) (by decide) (by rw [← he]; rfl) rfl
  | succ rem ih =>
    intro i hr hi he
    refine z_iload_n d_Que_seekable_2 rfl ?_
    refine z_aload_n d_Que_seekable_3 rfl ?_
    refine z_get d_Que_seekable_4 f_Que_19 (by omega) rfl rfl ?_
    refine z_icmp_ge d_Que_seekable_7 50 (by decide) (fun h9 => absurd h9 (by rw [hm]; exact nI_ge (show i < m by omega) (by omega))) (fun _ => ?_)
    refine z_aload_n d_Que_seekable_10 rfl ?_
    refine z_get d_Que_seekable_11 f_Que_31 (by omega) rfl rfl ?_
    refine z_iload_n d_Que_seekable_14 rfl ?_
    refine z_iald d_Que_seekable_15 (by omega) rfl (show zin (nI i) i 4 from ⟨rfl, by omega, by decide⟩) ?_
    refine z_iload_n d_Que_seekable_16 rfl ?_
    refine z_icmp_ne d_Que_seekable_17 44 (by decide) (fun h17 => ?_) (fun h17 => ?_)
    · refine z_iinc (lv' := [(0, _), (1, _), (2, _)]) d_Que_seekable_44 (by decide) rfl (show _ + Int32.ofInt 1 = nI (i + 1) from nI_1 _) rfl ?_
      refine z_goto d_Que_seekable_47 2 (by decide) ?_
      exact ih (i + 1) (by omega) (by omega) (by rw [← he, qsk, if_neg (by simp only [qok, decide_eq_false h17, Bool.false_and]; decide)])
    · refine z_aload_n d_Que_seekable_20 rfl ?_
      refine z_get d_Que_seekable_21 f_Que_34 (by omega) rfl rfl ?_
      refine z_iload_n d_Que_seekable_24 rfl ?_
      refine z_iald d_Que_seekable_25 (by omega) rfl (show zin (nI i) i 4 from ⟨rfl, by omega, by decide⟩) ?_
      refine z_iconst (v := (-1)) d_Que_seekable_26 (by decide) ?_
      refine z_icmp_ne d_Que_seekable_27 44 (by decide) (fun h27 => ?_) (fun h27 => ?_)
      · refine z_iinc (lv' := [(0, _), (1, _), (2, _)]) d_Que_seekable_44 (by decide) rfl (show _ + Int32.ofInt 1 = nI (i + 1) from nI_1 _) rfl ?_
        refine z_goto d_Que_seekable_47 2 (by decide) ?_
        exact ih (i + 1) (by omega) (by omega) (by rw [← he, qsk, if_neg (by simp only [qok, decide_eq_false h27, Bool.and_false, Bool.false_and]; decide)])
      · refine z_aload_n d_Que_seekable_30 rfl ?_
        refine z_get d_Que_seekable_31 f_Que_37 (by omega) rfl rfl ?_
        refine z_iload_n d_Que_seekable_34 rfl ?_
        refine z_iald d_Que_seekable_35 (by omega) rfl (show zin (nI i) i 4 from ⟨rfl, by omega, by decide⟩) ?_
        refine z_callS1 d_Que_seekable_36 g_Que_90 (c_Que_fb X _ J G) rfl ⟨by decide, by decide, by decide, by decide⟩ rfl (Nat.le_of_ble_eq_true rfl) ?_
        refine z_if_eq d_Que_seekable_39 44 (by decide) (fun h39 => ?_) (fun h39 => ?_)
        · refine z_iinc (lv' := [(0, _), (1, _), (2, _)]) d_Que_seekable_44 (by decide) rfl (show _ + Int32.ofInt 1 = nI (i + 1) from nI_1 _) rfl ?_
          refine z_goto d_Que_seekable_47 2 (by decide) ?_
          exact ih (i + 1) (by omega) (by omega) (by rw [← he, qsk, if_neg (by simp only [qok, zb0 h39, Bool.and_false]; decide)])
        · refine z_iload_n d_Que_seekable_42 rfl ?_
          exact z_iret d_Que_seekable_43 rfl (by decide) (by decide) (by rw [← he, qsk, if_pos (by simp only [qok, decide_eq_true h17, decide_eq_true h27, zb1' h39]; rfl)]; rfl) rfl
set_option maxRecDepth 100000 in
set_option maxHeartbeats 4000000 in
theorem c_Que_seekable (X : zX) (J : zJT) (G : zGT) {m : Nat} (hm : J 32 2 = nI m) (hm4 : m ≤ 4) (c : Int32) : zK X 1 m_Que_seekable [.ref 32, .int c] J G (some (.int (qval (qsk J c m 0)))) J G := by
  refine zC_of (by decide) (Nat.le_of_ble_eq_true rfl) ?_
  refine z_iconst (v := 0) d_Que_seekable_0 (by decide) ?_
  refine z_istore_n (lv' := [(0, _), (1, _), (2, _)]) d_Que_seekable_1 (by decide) rfl ?_
  exact z_loc (lv' := [(0, .ref 32), (1, .int c), (2, .int (nI 0))]) (by simp [nI_0]) (l_Que_seek X J G hm hm4 c m 0 (by omega) (by omega) rfl)
def qStart (J : zJT) (c e : Int32) (m : Nat) (L : List zI4) : List zI4 := match qsk J c m 0 with
  | none => L ++ [(2, c, e, 0)]
  | some i => L ++ [(6, J 39 i, 0, 0)] ++ [(8, c, e, 0)]
set_option maxRecDepth 100000 in
set_option maxHeartbeats 4000000 in
theorem c_Que_start0 (X : zX) (J : zJT) (G : zGT) (L : List zI4) {m : Nat} (hm : J 32 2 = nI m) (hm4 : m ≤ 4) (hL : L.length + 2 ≤ 60) (c e : Int32) (h0 : qsk J c m 0 = none) : zK X 2 m_Que_writeStart [.ref 32, .ref 15, .int c, .int e] (zwr J L) G none (zwr J (qStart J c e m L)) G := by
  refine zC_of (by decide) (Nat.le_of_ble_eq_true rfl) ?_
  refine z_aload_n d_Que_writeStart_0 rfl ?_
  refine z_iload_n d_Que_writeStart_1 rfl ?_
  refine z_callV1 d_Que_writeStart_2 g_Que_86 (c_Que_seekable X (zwr J L) G (show zwr J L 32 2 = nI m by rw [zwr_n J _ (show (32 : Nat) ≠ 15 ∧ (32 : Nat) ≠ 16 by decide)]; exact hm) hm4 c) (by omega) rfl rfl rfl ⟨by decide, by decide, by decide, by decide⟩ rfl (Nat.le_of_ble_eq_true rfl) ?_
  rw [qsk_wr, h0]
  refine z_istore (lv' := [(0, _), (1, _), (2, _), (3, _), (4, _)]) d_Que_writeStart_5 (by decide) rfl ?_
  refine z_iload d_Que_writeStart_7 rfl ?_
  refine z_iconst (v := (-1)) d_Que_writeStart_9 (by decide) ?_
  refine z_icmp_ne d_Que_writeStart_10 24 (by decide) (fun h9 => absurd h9 (fun h9 => h9 rfl)) (fun _ => ?_)
  refine z_aload_n d_Que_writeStart_13 rfl ?_
  refine z_iconst (v := 2) d_Que_writeStart_14 (by decide) ?_
  refine z_iload_n d_Que_writeStart_15 rfl ?_
  refine z_iload_n d_Que_writeStart_16 rfl ?_
  refine z_iconst (v := 0) d_Que_writeStart_17 (by decide) ?_
  refine z_callV0 d_Que_writeStart_18 g_Que_64 (c_app X J G L (by first | omega | (simp only [List.length_append, List.length_cons, List.length_nil, qTest_l]; omega)) 2 c e 0) (by omega) rfl rfl rfl ⟨by decide, by decide, by decide, by decide⟩ rfl (Nat.le_of_ble_eq_true rfl) ?_
  refine z_goto d_Que_writeStart_21 48 (by decide) ?_
  exact z_vret d_Que_writeStart_48 rfl (by decide) (by decide) (by rw [qStart, h0])
set_option maxRecDepth 100000 in
set_option maxHeartbeats 4000000 in
theorem c_Que_start1 (X : zX) (J : zJT) (G : zGT) (L : List zI4) {m : Nat} (hm : J 32 2 = nI m) (hm4 : m ≤ 4) (hL : L.length + 2 ≤ 60) (c e : Int32) {i : Nat} (h0 : qsk J c m 0 = some i) : zK X 2 m_Que_writeStart [.ref 32, .ref 15, .int c, .int e] (zwr J L) G none (zwr J (qStart J c e m L)) G := by
  have hi := qsk_lt J c m 0 i h0
  refine zC_of (by decide) (Nat.le_of_ble_eq_true rfl) ?_
  refine z_aload_n d_Que_writeStart_0 rfl ?_
  refine z_iload_n d_Que_writeStart_1 rfl ?_
  refine z_callV1 d_Que_writeStart_2 g_Que_86 (c_Que_seekable X (zwr J L) G (show zwr J L 32 2 = nI m by rw [zwr_n J _ (show (32 : Nat) ≠ 15 ∧ (32 : Nat) ≠ 16 by decide)]; exact hm) hm4 c) (by omega) rfl rfl rfl ⟨by decide, by decide, by decide, by decide⟩ rfl (Nat.le_of_ble_eq_true rfl) ?_
  rw [qsk_wr, h0]
  refine z_istore (lv' := [(0, _), (1, _), (2, _), (3, _), (4, _)]) d_Que_writeStart_5 (by decide) rfl ?_
  refine z_iload d_Que_writeStart_7 rfl ?_
  refine z_iconst (v := (-1)) d_Que_writeStart_9 (by decide) ?_
  refine z_icmp_ne d_Que_writeStart_10 24 (by decide) (fun _ => ?_) (fun h9 => absurd h9 (nI_m1 (show i < 2 ^ 31 by omega)))
  refine z_aload_n d_Que_writeStart_24 rfl ?_
  refine z_bipush (v := 6) d_Que_writeStart_25 (by decide) ?_
  refine z_aload_n d_Que_writeStart_27 rfl ?_
  refine z_get d_Que_writeStart_28 f_Que_40 (by omega) rfl rfl ?_
  refine z_iload d_Que_writeStart_31 rfl ?_
  refine z_iald d_Que_writeStart_33 (by omega) rfl (show zin (nI i) i 4 from ⟨rfl, by omega, by decide⟩) ?_
  refine z_iconst (v := 0) d_Que_writeStart_34 (by decide) ?_
  refine z_iconst (v := 0) d_Que_writeStart_35 (by decide) ?_
  rw [zwr_n J _ (show (39 : Nat) ≠ 15 ∧ (39 : Nat) ≠ 16 by decide)]
  refine z_callV0 d_Que_writeStart_36 g_Que_64 (c_app X J G L (by first | omega | (simp only [List.length_append, List.length_cons, List.length_nil, qTest_l]; omega)) 6 (J 39 i) 0 0) (by omega) rfl rfl rfl ⟨by decide, by decide, by decide, by decide⟩ rfl (Nat.le_of_ble_eq_true rfl) ?_
  refine z_aload_n d_Que_writeStart_39 rfl ?_
  refine z_bipush (v := 8) d_Que_writeStart_40 (by decide) ?_
  refine z_iload_n d_Que_writeStart_42 rfl ?_
  refine z_iload_n d_Que_writeStart_43 rfl ?_
  refine z_iconst (v := 0) d_Que_writeStart_44 (by decide) ?_
  refine z_callV0 d_Que_writeStart_45 g_Que_64 (c_app X J G _ (by first | omega | (simp only [List.length_append, List.length_cons, List.length_nil, qTest_l]; omega)) 8 c e 0) (by omega) rfl rfl rfl ⟨by decide, by decide, by decide, by decide⟩ rfl (Nat.le_of_ble_eq_true rfl) ?_
  exact z_vret d_Que_writeStart_48 rfl (by decide) (by decide) (by rw [qStart, h0])
theorem c_Que_start (X : zX) (J : zJT) (G : zGT) (L : List zI4) {m : Nat} (hm : J 32 2 = nI m) (hm4 : m ≤ 4) (hL : L.length + 2 ≤ 60) (c e : Int32) : zK X 2 m_Que_writeStart [.ref 32, .ref 15, .int c, .int e] (zwr J L) G none (zwr J (qStart J c e m L)) G := by
  cases h0 : qsk J c m 0 with
  | none => exact c_Que_start0 X J G L hm hm4 hL c e h0
  | some i => exact c_Que_start1 X J G L hm hm4 hL c e h0
theorem qStart_l (J : zJT) (c e : Int32) (m : Nat) (L : List zI4) : (qStart J c e m L).length ≤ L.length + 2 ∧ L.length ≤ (qStart J c e m L).length := by
  unfold qStart; split <;> simp
def qJoin (J : zJT) (n : Int32) (L : List zI4) : List zI4 := qTest (L ++ [qCol 0 (J 32 11) 0] ++ [qCol 1 (J 32 12) 1]) 9 1 n
set_option maxRecDepth 100000 in
set_option maxHeartbeats 4000000 in
theorem c_Que_join (X : zX) (J : zJT) (G : zGT) (L : List zI4) (hL : L.length + 4 ≤ 60) (n : Int32) : zK X 2 m_Que_writeJoin [.ref 32, .ref 15, .int n] (zwr J L) G none (zwr J (qJoin J n L)) G := by
  refine zC_of (by decide) (Nat.le_of_ble_eq_true rfl) ?_
  refine z_aload_n d_Que_writeJoin_0 rfl ?_
  refine z_aload_n d_Que_writeJoin_1 rfl ?_
  refine z_iconst (v := 0) d_Que_writeJoin_2 (by decide) ?_
  refine z_aload_n d_Que_writeJoin_3 rfl ?_
  refine z_get d_Que_writeJoin_4 f_Que_47 (by omega) rfl rfl ?_
  refine z_iconst (v := 0) d_Que_writeJoin_7 (by decide) ?_
  rw [zwr_n J _ (show (32 : Nat) ≠ 15 ∧ (32 : Nat) ≠ 16 by decide)]
  refine z_callV0 d_Que_writeJoin_8 g_Que_97 (c_Que_writeColumn X J G _ (by first | omega | (simp only [List.length_append, List.length_cons, List.length_nil, qTest_l]; omega)) _ _ _) (by omega) rfl rfl rfl ⟨by decide, by decide, by decide, by decide⟩ rfl (Nat.le_of_ble_eq_true rfl) ?_
  refine z_aload_n d_Que_writeJoin_11 rfl ?_
  refine z_aload_n d_Que_writeJoin_12 rfl ?_
  refine z_iconst (v := 1) d_Que_writeJoin_13 (by decide) ?_
  refine z_aload_n d_Que_writeJoin_14 rfl ?_
  refine z_get d_Que_writeJoin_15 f_Que_50 (by omega) rfl rfl ?_
  refine z_iconst (v := 1) d_Que_writeJoin_18 (by decide) ?_
  rw [zwr_n J _ (show (32 : Nat) ≠ 15 ∧ (32 : Nat) ≠ 16 by decide)]
  refine z_callV0 d_Que_writeJoin_19 g_Que_97 (c_Que_writeColumn X J G _ (by first | omega | (simp only [List.length_append, List.length_cons, List.length_nil, qTest_l]; omega)) _ _ _) (by omega) rfl rfl rfl ⟨by decide, by decide, by decide, by decide⟩ rfl (Nat.le_of_ble_eq_true rfl) ?_
  refine z_aload_n d_Que_writeJoin_22 rfl ?_
  refine z_aload_n d_Que_writeJoin_23 rfl ?_
  refine z_bipush (v := 9) d_Que_writeJoin_24 (by decide) ?_
  refine z_iconst (v := 1) d_Que_writeJoin_26 (by decide) ?_
  refine z_iload_n d_Que_writeJoin_27 rfl ?_
  refine z_callV0 d_Que_writeJoin_28 g_Que_101 (c_Que_writeTest X J G _ (by simp only [List.length_append, List.length_cons, List.length_nil]; omega) _ _ _) (by omega) rfl rfl rfl ⟨by decide, by decide, by decide, by decide⟩ rfl (Nat.le_of_ble_eq_true rfl) ?_
  exact z_vret d_Que_writeJoin_31 rfl (by decide) (by decide) rfl
end
section
def qTail (J : zJT) (mo : Nat) (L : List zI4) : List zI4 := qOuts J mo L ++ [(18, 2, nI mo, 0)]
def qInner (J : zJT) (oN : Int32) (m mo : Nat) (jo : Bool) (L : List zI4) : List zI4 :=
  qTail J mo (if jo = true then qJoin J (oN - 1) (qConds J 1 (oN - 1) m (qStart J 1 oN m L)) else qConds J 1 (oN - 1) m (qStart J 1 oN m L)) ++ [(3, 1, nI (qStart J 1 oN m L).length, 0)]
def qOpens (J : zJT) : Nat → List zI4
  | 0 => []
  | c + 1 => qOpens J c ++ [(1, nI c, J 33 c, 0)]
def qBody (J : zJT) (len : Int32) (nc m : Nat) : List zI4 := qConds J 0 (len - 1 - 1) m (qStart J 0 (len - 1) m (qOpens J nc))
def qProg (J : zJT) (len : Int32) (nc m mo : Nat) (jo : Bool) : List zI4 :=
  (if nc = 2 then qInner J (len - 1 - 1) m mo jo (qBody J len nc m) else qTail J mo (qBody J len nc m)) ++ [(3, 0, nI (qStart J 0 (len - 1) m (qOpens J nc)).length, 0)] ++ [(0, 0, 0, 0)]
theorem qTail_l (J : zJT) (mo : Nat) (L : List zI4) : (qTail J mo L).length = L.length + mo + 1 := by simp [qTail, qOuts_l]
theorem qJoin_l (J : zJT) (n : Int32) (L : List zI4) : (qJoin J n L).length = L.length + 4 := by simp [qJoin, qTest_l]
theorem qOpens_l (J : zJT) (n : Nat) : (qOpens J n).length = n := by
  induction n with
  | zero => rfl
  | succ n ih => simp [qOpens, ih]
theorem qInner_l (J : zJT) (oN : Int32) (m mo : Nat) (jo : Bool) (L : List zI4) : (qInner J oN m mo jo L).length ≤ L.length + 4 * m + mo + 8 := by
  have h1 := (qStart_l J 1 oN m L).1
  have h2 := (qConds_l J 1 (oN - 1) m (qStart J 1 oN m L)).1
  unfold qInner
  rw [List.length_append, qTail_l]
  split <;> simp only [qJoin_l, List.length_cons, List.length_nil] <;> omega
theorem qBody_l (J : zJT) (len : Int32) (nc m : Nat) : (qBody J len nc m).length ≤ nc + 2 + 4 * m := by
  have h1 := (qStart_l J 0 (len - 1) m (qOpens J nc)).1
  have h2 := (qConds_l J 0 (len - 1 - 1) m (qStart J 0 (len - 1) m (qOpens J nc))).1
  rw [qOpens_l] at h1
  unfold qBody
  omega
theorem zpw_nil (f : Nat → Int32) : zpw f [] = f := by funext j; simp [zpw]
set_option maxRecDepth 100000 in
set_option maxHeartbeats 4000000 in
theorem c_Que_inner_true (X : zX) (J : zJT) (G : zGT) (L : List zI4) {m mo : Nat} (hm : J 32 2 = nI m) (hm4 : m ≤ 4) (ho : J 32 1 = nI mo) (ho4 : mo ≤ 4) (hL : L.length ≤ 25) (oN : Int32) (hj : J 32 10 = 1) : zK X 4 m_Que_writeInnerLoop [.ref 32, .ref 15, .int oN] (zwr J L) G none (zwr J (qInner J oN m mo true L)) G := by
  have h1 := (qStart_l J 1 oN m L).1
  have h2 := (qConds_l J 1 (oN - 1) m (qStart J 1 oN m L)).1
  refine zC_of (by decide) (Nat.le_of_ble_eq_true rfl) ?_
  refine z_iload_n d_Que_writeInnerLoop_0 rfl ?_
  refine z_iconst (v := 1) d_Que_writeInnerLoop_1 (by decide) ?_
  refine z_isub d_Que_writeInnerLoop_2 ?_
  refine z_istore_n (lv' := [(0, _), (1, _), (2, _), (3, _)]) d_Que_writeInnerLoop_3 (by decide) rfl ?_
  refine z_aload_n d_Que_writeInnerLoop_4 rfl ?_
  refine z_aload_n d_Que_writeInnerLoop_5 rfl ?_
  refine z_iconst (v := 1) d_Que_writeInnerLoop_6 (by decide) ?_
  refine z_iload_n d_Que_writeInnerLoop_7 rfl ?_
  refine z_callV0 d_Que_writeInnerLoop_8 g_Que_68 (c_Que_start X J G L hm hm4 (by omega) 1 oN) (by omega) rfl rfl rfl ⟨by decide, by decide, by decide, by decide⟩ rfl (Nat.le_of_ble_eq_true rfl) ?_
  refine z_aload_n d_Que_writeInnerLoop_11 rfl ?_
  refine z_get d_Que_writeInnerLoop_12 f_Que_57 (by omega) rfl rfl ?_
  rw [zwr_sz]
  refine z_istore (lv' := [(0, _), (1, _), (2, _), (3, _), (4, _)]) d_Que_writeInnerLoop_15 (by decide) rfl ?_
  refine z_aload_n d_Que_writeInnerLoop_17 rfl ?_
  refine z_aload_n d_Que_writeInnerLoop_18 rfl ?_
  refine z_iconst (v := 1) d_Que_writeInnerLoop_19 (by decide) ?_
  refine z_iload_n d_Que_writeInnerLoop_20 rfl ?_
  refine z_callV0 d_Que_writeInnerLoop_21 g_Que_72 (c_Que_conds X J G _ hm hm4 (by omega) 1 (oN - 1)) (by omega) rfl rfl rfl ⟨by decide, by decide, by decide, by decide⟩ rfl (Nat.le_of_ble_eq_true rfl) ?_
  refine z_aload_n d_Que_writeInnerLoop_24 rfl ?_
  refine z_get d_Que_writeInnerLoop_25 f_Que_43 (by omega) rfl rfl ?_
  rw [zwr_n J _ (show (32 : Nat) ≠ 15 ∧ (32 : Nat) ≠ 16 by decide)]
  refine z_if_eq d_Que_writeInnerLoop_28 37 (by decide) (fun h9 => absurd h9 (by rw [hj]; decide)) (fun _ => ?_)
  refine z_aload_n d_Que_writeInnerLoop_31 rfl ?_
  refine z_aload_n d_Que_writeInnerLoop_32 rfl ?_
  refine z_iload_n d_Que_writeInnerLoop_33 rfl ?_
  refine z_callV0 d_Que_writeInnerLoop_34 g_Que_83 (c_Que_join X J G _ (by omega) (oN - 1)) (by omega) rfl rfl rfl ⟨by decide, by decide, by decide, by decide⟩ rfl (Nat.le_of_ble_eq_true rfl) ?_
  refine z_aload_n d_Que_writeInnerLoop_37 rfl ?_
  refine z_aload_n d_Que_writeInnerLoop_38 rfl ?_
  refine z_callV0 d_Que_writeInnerLoop_39 g_Que_79 (c_Que_outs X J G _ ho ho4 (by first | omega | (rw [qJoin_l]; omega))) (by omega) rfl rfl rfl ⟨by decide, by decide, by decide, by decide⟩ rfl (Nat.le_of_ble_eq_true rfl) ?_
  refine z_aload_n d_Que_writeInnerLoop_42 rfl ?_
  refine z_iconst (v := 3) d_Que_writeInnerLoop_43 (by decide) ?_
  refine z_iconst (v := 1) d_Que_writeInnerLoop_44 (by decide) ?_
  refine z_iload d_Que_writeInnerLoop_45 rfl ?_
  refine z_iconst (v := 0) d_Que_writeInnerLoop_47 (by decide) ?_
  refine z_callV0 d_Que_writeInnerLoop_48 g_Que_64 (c_app X J G _ (by have h3 := qOuts_l J mo; simp only [List.length_append, h3, qJoin_l, List.length_cons, List.length_nil]; omega) 3 1 _ 0) (by omega) rfl rfl rfl ⟨by decide, by decide, by decide, by decide⟩ rfl (Nat.le_of_ble_eq_true rfl) ?_
  exact z_vret d_Que_writeInnerLoop_51 rfl (by decide) (by decide) (by simp only [qInner, qTail, if_pos, Bool.false_eq_true, if_false])
set_option maxRecDepth 100000 in
set_option maxHeartbeats 4000000 in
theorem c_Que_inner_false (X : zX) (J : zJT) (G : zGT) (L : List zI4) {m mo : Nat} (hm : J 32 2 = nI m) (hm4 : m ≤ 4) (ho : J 32 1 = nI mo) (ho4 : mo ≤ 4) (hL : L.length ≤ 25) (oN : Int32) (hj : J 32 10 = 0) : zK X 4 m_Que_writeInnerLoop [.ref 32, .ref 15, .int oN] (zwr J L) G none (zwr J (qInner J oN m mo false L)) G := by
  have h1 := (qStart_l J 1 oN m L).1
  have h2 := (qConds_l J 1 (oN - 1) m (qStart J 1 oN m L)).1
  refine zC_of (by decide) (Nat.le_of_ble_eq_true rfl) ?_
  refine z_iload_n d_Que_writeInnerLoop_0 rfl ?_
  refine z_iconst (v := 1) d_Que_writeInnerLoop_1 (by decide) ?_
  refine z_isub d_Que_writeInnerLoop_2 ?_
  refine z_istore_n (lv' := [(0, _), (1, _), (2, _), (3, _)]) d_Que_writeInnerLoop_3 (by decide) rfl ?_
  refine z_aload_n d_Que_writeInnerLoop_4 rfl ?_
  refine z_aload_n d_Que_writeInnerLoop_5 rfl ?_
  refine z_iconst (v := 1) d_Que_writeInnerLoop_6 (by decide) ?_
  refine z_iload_n d_Que_writeInnerLoop_7 rfl ?_
  refine z_callV0 d_Que_writeInnerLoop_8 g_Que_68 (c_Que_start X J G L hm hm4 (by omega) 1 oN) (by omega) rfl rfl rfl ⟨by decide, by decide, by decide, by decide⟩ rfl (Nat.le_of_ble_eq_true rfl) ?_
  refine z_aload_n d_Que_writeInnerLoop_11 rfl ?_
  refine z_get d_Que_writeInnerLoop_12 f_Que_57 (by omega) rfl rfl ?_
  rw [zwr_sz]
  refine z_istore (lv' := [(0, _), (1, _), (2, _), (3, _), (4, _)]) d_Que_writeInnerLoop_15 (by decide) rfl ?_
  refine z_aload_n d_Que_writeInnerLoop_17 rfl ?_
  refine z_aload_n d_Que_writeInnerLoop_18 rfl ?_
  refine z_iconst (v := 1) d_Que_writeInnerLoop_19 (by decide) ?_
  refine z_iload_n d_Que_writeInnerLoop_20 rfl ?_
  refine z_callV0 d_Que_writeInnerLoop_21 g_Que_72 (c_Que_conds X J G _ hm hm4 (by omega) 1 (oN - 1)) (by omega) rfl rfl rfl ⟨by decide, by decide, by decide, by decide⟩ rfl (Nat.le_of_ble_eq_true rfl) ?_
  refine z_aload_n d_Que_writeInnerLoop_24 rfl ?_
  refine z_get d_Que_writeInnerLoop_25 f_Que_43 (by omega) rfl rfl ?_
  rw [zwr_n J _ (show (32 : Nat) ≠ 15 ∧ (32 : Nat) ≠ 16 by decide)]
  refine z_if_eq d_Que_writeInnerLoop_28 37 (by decide) (fun _ => ?_) (fun h9 => absurd hj h9)
  refine z_aload_n d_Que_writeInnerLoop_37 rfl ?_
  refine z_aload_n d_Que_writeInnerLoop_38 rfl ?_
  refine z_callV0 d_Que_writeInnerLoop_39 g_Que_79 (c_Que_outs X J G _ ho ho4 (by first | omega | (rw [qJoin_l]; omega))) (by omega) rfl rfl rfl ⟨by decide, by decide, by decide, by decide⟩ rfl (Nat.le_of_ble_eq_true rfl) ?_
  refine z_aload_n d_Que_writeInnerLoop_42 rfl ?_
  refine z_iconst (v := 3) d_Que_writeInnerLoop_43 (by decide) ?_
  refine z_iconst (v := 1) d_Que_writeInnerLoop_44 (by decide) ?_
  refine z_iload d_Que_writeInnerLoop_45 rfl ?_
  refine z_iconst (v := 0) d_Que_writeInnerLoop_47 (by decide) ?_
  refine z_callV0 d_Que_writeInnerLoop_48 g_Que_64 (c_app X J G _ (by have h3 := qOuts_l J mo; simp only [List.length_append, h3, qJoin_l, List.length_cons, List.length_nil]; omega) 3 1 _ 0) (by omega) rfl rfl rfl ⟨by decide, by decide, by decide, by decide⟩ rfl (Nat.le_of_ble_eq_true rfl) ?_
  exact z_vret d_Que_writeInnerLoop_51 rfl (by decide) (by decide) (by simp only [qInner, qTail, if_pos, Bool.false_eq_true, if_false])
set_option maxRecDepth 100000 in
set_option maxHeartbeats 4000000 in
theorem l_Que_writeTo (X : zX) (J : zJT) (G : zGT) {m mo nc : Nat} {jo : Bool} (hm : J 32 2 = nI m) (hm4 : m ≤ 4) (ho : J 32 1 = nI mo) (ho4 : mo ≤ 4) (hc : J 32 3 = nI nc) (hc1 : nc ≤ 2) (hj : J 32 10 = zb jo) (len : Int32) : ∀ rem i, nc - i = rem → i ≤ nc → zJ X (zR 5 0 0) m_Que_writeTo (zRet X 0 0 false none (hp (zwr J (qProg J len nc m mo jo)) G) 60) false 0 0 (hp (zwr J (qOpens J i)) G) 60 17 [(0, .ref 32), (1, .ref 15), (2, .int len), (3, .int (len - 1)), (4, .int (len - 1 - 1)), (5, .int (nI i))] [] := by
  intro rem
  induction rem with
  | zero =>
    intro i hr hi
    rw [show i = nc by omega]
    have hb1 := (qStart_l J 0 (len - 1) m (qOpens J nc)).1
    have hb2 := qBody_l J len nc m
    rw [qOpens_l] at hb1
    by_cases h2 : nc = 2
    · cases jo
      · refine z_iload d_Que_writeTo_17 rfl ?_
        refine z_aload_n d_Que_writeTo_19 rfl ?_
        refine z_get d_Que_writeTo_20 f_Que_22 (by omega) rfl rfl ?_
        refine z_icmp_ge d_Que_writeTo_23 47 (by decide) (fun _ => ?_) (fun h9 => absurd (by rw [zwr_n J _ (show (32 : Nat) ≠ 15 ∧ (32 : Nat) ≠ 16 by decide), hc]; exact nI_le (Nat.le_refl _) (by omega)) h9)
        refine z_aload_n d_Que_writeTo_47 rfl ?_
        refine z_aload_n d_Que_writeTo_48 rfl ?_
        refine z_iconst (v := 0) d_Que_writeTo_49 (by decide) ?_
        refine z_iload_n d_Que_writeTo_50 rfl ?_
        refine z_callV0 d_Que_writeTo_51 g_Que_68 (c_Que_start X J G _ hm hm4 (by rw [qOpens_l]; omega) 0 (len - 1)) (by omega) rfl rfl rfl ⟨by decide, by decide, by decide, by decide⟩ rfl (Nat.le_of_ble_eq_true rfl) ?_
        refine z_aload_n d_Que_writeTo_54 rfl ?_
        refine z_get d_Que_writeTo_55 f_Que_57 (by omega) rfl rfl ?_
        rw [zwr_sz]
        refine z_istore (lv' := [(0, _), (1, _), (2, _), (3, _), (4, _), (5, _)]) d_Que_writeTo_58 (by decide) rfl ?_
        refine z_aload_n d_Que_writeTo_60 rfl ?_
        refine z_aload_n d_Que_writeTo_61 rfl ?_
        refine z_iconst (v := 0) d_Que_writeTo_62 (by decide) ?_
        refine z_iload d_Que_writeTo_63 rfl ?_
        refine z_callV0 d_Que_writeTo_65 g_Que_72 (c_Que_conds X J G _ hm hm4 (by omega) 0 (len - 1 - 1)) (by omega) rfl rfl rfl ⟨by decide, by decide, by decide, by decide⟩ rfl (Nat.le_of_ble_eq_true rfl) ?_
        refine z_aload_n d_Que_writeTo_68 rfl ?_
        refine z_get d_Que_writeTo_69 f_Que_22 (by omega) rfl rfl ?_
        refine z_iconst (v := 2) d_Que_writeTo_72 (by decide) ?_
        rw [zwr_n J _ (show (32 : Nat) ≠ 15 ∧ (32 : Nat) ≠ 16 by decide), hc]
        refine z_icmp_ne d_Que_writeTo_73 86 (by decide) (fun h9 => absurd h9 (fun h9 => h9 (by rw [h2]; rfl))) (fun _ => ?_)
        refine z_aload_n d_Que_writeTo_76 rfl ?_
        refine z_aload_n d_Que_writeTo_77 rfl ?_
        refine z_iload d_Que_writeTo_78 rfl ?_
        refine z_callV0 d_Que_writeTo_80 g_Que_75 (c_Que_inner_false X J G (qBody J len nc m) hm hm4 ho ho4 (by omega) (len - 1 - 1) hj) (by omega) rfl rfl rfl ⟨by decide, by decide, by decide, by decide⟩ rfl (Nat.le_of_ble_eq_true rfl) ?_
        refine z_goto d_Que_writeTo_83 91 (by decide) ?_
        refine z_aload_n d_Que_writeTo_91 rfl ?_
        refine z_iconst (v := 3) d_Que_writeTo_92 (by decide) ?_
        refine z_iconst (v := 0) d_Que_writeTo_93 (by decide) ?_
        refine z_iload d_Que_writeTo_94 rfl ?_
        refine z_iconst (v := 0) d_Que_writeTo_96 (by decide) ?_
        refine z_callV0 d_Que_writeTo_97 g_Que_64 (c_app X J G _ (by have := qInner_l J (len - 1 - 1) m mo false (qBody J len nc m); omega) 3 0 _ 0) (by omega) rfl rfl rfl ⟨by decide, by decide, by decide, by decide⟩ rfl (Nat.le_of_ble_eq_true rfl) ?_
        refine z_aload_n d_Que_writeTo_100 rfl ?_
        refine z_iconst (v := 0) d_Que_writeTo_101 (by decide) ?_
        refine z_iconst (v := 0) d_Que_writeTo_102 (by decide) ?_
        refine z_iconst (v := 0) d_Que_writeTo_103 (by decide) ?_
        refine z_iconst (v := 0) d_Que_writeTo_104 (by decide) ?_
        refine z_callV0 d_Que_writeTo_105 g_Que_64 (c_app X J G _ (by have := qInner_l J (len - 1 - 1) m mo false (qBody J len nc m); rw [List.length_append]; simp only [List.length_cons, List.length_nil]; omega) 0 0 0 0) (by omega) rfl rfl rfl ⟨by decide, by decide, by decide, by decide⟩ rfl (Nat.le_of_ble_eq_true rfl) ?_
        exact z_vret d_Que_writeTo_108 rfl (by decide) (by decide) (by rw [qProg, if_pos h2])
      · refine z_iload d_Que_writeTo_17 rfl ?_
        refine z_aload_n d_Que_writeTo_19 rfl ?_
        refine z_get d_Que_writeTo_20 f_Que_22 (by omega) rfl rfl ?_
        refine z_icmp_ge d_Que_writeTo_23 47 (by decide) (fun _ => ?_) (fun h9 => absurd (by rw [zwr_n J _ (show (32 : Nat) ≠ 15 ∧ (32 : Nat) ≠ 16 by decide), hc]; exact nI_le (Nat.le_refl _) (by omega)) h9)
        refine z_aload_n d_Que_writeTo_47 rfl ?_
        refine z_aload_n d_Que_writeTo_48 rfl ?_
        refine z_iconst (v := 0) d_Que_writeTo_49 (by decide) ?_
        refine z_iload_n d_Que_writeTo_50 rfl ?_
        refine z_callV0 d_Que_writeTo_51 g_Que_68 (c_Que_start X J G _ hm hm4 (by rw [qOpens_l]; omega) 0 (len - 1)) (by omega) rfl rfl rfl ⟨by decide, by decide, by decide, by decide⟩ rfl (Nat.le_of_ble_eq_true rfl) ?_
        refine z_aload_n d_Que_writeTo_54 rfl ?_
        refine z_get d_Que_writeTo_55 f_Que_57 (by omega) rfl rfl ?_
        rw [zwr_sz]
        refine z_istore (lv' := [(0, _), (1, _), (2, _), (3, _), (4, _), (5, _)]) d_Que_writeTo_58 (by decide) rfl ?_
        refine z_aload_n d_Que_writeTo_60 rfl ?_
        refine z_aload_n d_Que_writeTo_61 rfl ?_
        refine z_iconst (v := 0) d_Que_writeTo_62 (by decide) ?_
        refine z_iload d_Que_writeTo_63 rfl ?_
        refine z_callV0 d_Que_writeTo_65 g_Que_72 (c_Que_conds X J G _ hm hm4 (by omega) 0 (len - 1 - 1)) (by omega) rfl rfl rfl ⟨by decide, by decide, by decide, by decide⟩ rfl (Nat.le_of_ble_eq_true rfl) ?_
        refine z_aload_n d_Que_writeTo_68 rfl ?_
        refine z_get d_Que_writeTo_69 f_Que_22 (by omega) rfl rfl ?_
        refine z_iconst (v := 2) d_Que_writeTo_72 (by decide) ?_
        rw [zwr_n J _ (show (32 : Nat) ≠ 15 ∧ (32 : Nat) ≠ 16 by decide), hc]
        refine z_icmp_ne d_Que_writeTo_73 86 (by decide) (fun h9 => absurd h9 (fun h9 => h9 (by rw [h2]; rfl))) (fun _ => ?_)
        refine z_aload_n d_Que_writeTo_76 rfl ?_
        refine z_aload_n d_Que_writeTo_77 rfl ?_
        refine z_iload d_Que_writeTo_78 rfl ?_
        refine z_callV0 d_Que_writeTo_80 g_Que_75 (c_Que_inner_true X J G (qBody J len nc m) hm hm4 ho ho4 (by omega) (len - 1 - 1) hj) (by omega) rfl rfl rfl ⟨by decide, by decide, by decide, by decide⟩ rfl (Nat.le_of_ble_eq_true rfl) ?_
        refine z_goto d_Que_writeTo_83 91 (by decide) ?_
        refine z_aload_n d_Que_writeTo_91 rfl ?_
        refine z_iconst (v := 3) d_Que_writeTo_92 (by decide) ?_
        refine z_iconst (v := 0) d_Que_writeTo_93 (by decide) ?_
        refine z_iload d_Que_writeTo_94 rfl ?_
        refine z_iconst (v := 0) d_Que_writeTo_96 (by decide) ?_
        refine z_callV0 d_Que_writeTo_97 g_Que_64 (c_app X J G _ (by have := qInner_l J (len - 1 - 1) m mo true (qBody J len nc m); omega) 3 0 _ 0) (by omega) rfl rfl rfl ⟨by decide, by decide, by decide, by decide⟩ rfl (Nat.le_of_ble_eq_true rfl) ?_
        refine z_aload_n d_Que_writeTo_100 rfl ?_
        refine z_iconst (v := 0) d_Que_writeTo_101 (by decide) ?_
        refine z_iconst (v := 0) d_Que_writeTo_102 (by decide) ?_
        refine z_iconst (v := 0) d_Que_writeTo_103 (by decide) ?_
        refine z_iconst (v := 0) d_Que_writeTo_104 (by decide) ?_
        refine z_callV0 d_Que_writeTo_105 g_Que_64 (c_app X J G _ (by have := qInner_l J (len - 1 - 1) m mo true (qBody J len nc m); rw [List.length_append]; simp only [List.length_cons, List.length_nil]; omega) 0 0 0 0) (by omega) rfl rfl rfl ⟨by decide, by decide, by decide, by decide⟩ rfl (Nat.le_of_ble_eq_true rfl) ?_
        exact z_vret d_Que_writeTo_108 rfl (by decide) (by decide) (by rw [qProg, if_pos h2])
    · refine z_iload d_Que_writeTo_17 rfl ?_
      refine z_aload_n d_Que_writeTo_19 rfl ?_
      refine z_get d_Que_writeTo_20 f_Que_22 (by omega) rfl rfl ?_
      refine z_icmp_ge d_Que_writeTo_23 47 (by decide) (fun _ => ?_) (fun h9 => absurd (by rw [zwr_n J _ (show (32 : Nat) ≠ 15 ∧ (32 : Nat) ≠ 16 by decide), hc]; exact nI_le (Nat.le_refl _) (by omega)) h9)
      refine z_aload_n d_Que_writeTo_47 rfl ?_
      refine z_aload_n d_Que_writeTo_48 rfl ?_
      refine z_iconst (v := 0) d_Que_writeTo_49 (by decide) ?_
      refine z_iload_n d_Que_writeTo_50 rfl ?_
      refine z_callV0 d_Que_writeTo_51 g_Que_68 (c_Que_start X J G _ hm hm4 (by rw [qOpens_l]; omega) 0 (len - 1)) (by omega) rfl rfl rfl ⟨by decide, by decide, by decide, by decide⟩ rfl (Nat.le_of_ble_eq_true rfl) ?_
      refine z_aload_n d_Que_writeTo_54 rfl ?_
      refine z_get d_Que_writeTo_55 f_Que_57 (by omega) rfl rfl ?_
      rw [zwr_sz]
      refine z_istore (lv' := [(0, _), (1, _), (2, _), (3, _), (4, _), (5, _)]) d_Que_writeTo_58 (by decide) rfl ?_
      refine z_aload_n d_Que_writeTo_60 rfl ?_
      refine z_aload_n d_Que_writeTo_61 rfl ?_
      refine z_iconst (v := 0) d_Que_writeTo_62 (by decide) ?_
      refine z_iload d_Que_writeTo_63 rfl ?_
      refine z_callV0 d_Que_writeTo_65 g_Que_72 (c_Que_conds X J G _ hm hm4 (by omega) 0 (len - 1 - 1)) (by omega) rfl rfl rfl ⟨by decide, by decide, by decide, by decide⟩ rfl (Nat.le_of_ble_eq_true rfl) ?_
      refine z_aload_n d_Que_writeTo_68 rfl ?_
      refine z_get d_Que_writeTo_69 f_Que_22 (by omega) rfl rfl ?_
      refine z_iconst (v := 2) d_Que_writeTo_72 (by decide) ?_
      rw [zwr_n J _ (show (32 : Nat) ≠ 15 ∧ (32 : Nat) ≠ 16 by decide), hc]
      refine z_icmp_ne d_Que_writeTo_73 86 (by decide) (fun _ => ?_) (fun h9 => absurd h9 (fun h9 => h2 ((nI_eq (by omega) (by decide)).mp (show nI nc = nI 2 from h9))))
      refine z_aload_n d_Que_writeTo_86 rfl ?_
      refine z_aload_n d_Que_writeTo_87 rfl ?_
      refine z_callV0 d_Que_writeTo_88 g_Que_79 (c_Que_outs X J G (qBody J len nc m) ho ho4 (by omega)) (by omega) rfl rfl rfl ⟨by decide, by decide, by decide, by decide⟩ rfl (Nat.le_of_ble_eq_true rfl) ?_
      refine z_aload_n d_Que_writeTo_91 rfl ?_
      refine z_iconst (v := 3) d_Que_writeTo_92 (by decide) ?_
      refine z_iconst (v := 0) d_Que_writeTo_93 (by decide) ?_
      refine z_iload d_Que_writeTo_94 rfl ?_
      refine z_iconst (v := 0) d_Que_writeTo_96 (by decide) ?_
      refine z_callV0 d_Que_writeTo_97 g_Que_64 (c_app X J G _ (by have := qTail_l J mo (qBody J len nc m); simp only [qTail] at this; omega) 3 0 _ 0) (by omega) rfl rfl rfl ⟨by decide, by decide, by decide, by decide⟩ rfl (Nat.le_of_ble_eq_true rfl) ?_
      refine z_aload_n d_Que_writeTo_100 rfl ?_
      refine z_iconst (v := 0) d_Que_writeTo_101 (by decide) ?_
      refine z_iconst (v := 0) d_Que_writeTo_102 (by decide) ?_
      refine z_iconst (v := 0) d_Que_writeTo_103 (by decide) ?_
      refine z_iconst (v := 0) d_Que_writeTo_104 (by decide) ?_
      refine z_callV0 d_Que_writeTo_105 g_Que_64 (c_app X J G _ (by have := qTail_l J mo (qBody J len nc m); simp only [qTail] at this; rw [List.length_append]; simp only [List.length_cons, List.length_nil]; omega) 0 0 0 0) (by omega) rfl rfl rfl ⟨by decide, by decide, by decide, by decide⟩ rfl (Nat.le_of_ble_eq_true rfl) ?_
      exact z_vret d_Que_writeTo_108 rfl (by decide) (by decide) (by rw [qProg, if_neg h2]; rfl)
  | succ rem ih =>
    intro i hr hi
    refine z_iload d_Que_writeTo_17 rfl ?_
    refine z_aload_n d_Que_writeTo_19 rfl ?_
    refine z_get d_Que_writeTo_20 f_Que_22 (by omega) rfl rfl ?_
    refine z_icmp_ge d_Que_writeTo_23 47 (by decide) (fun h9 => absurd h9 (by rw [zwr_n J _ (show (32 : Nat) ≠ 15 ∧ (32 : Nat) ≠ 16 by decide), hc]; exact nI_ge (show i < nc by omega) (by omega))) (fun _ => ?_)
    refine z_aload_n d_Que_writeTo_26 rfl ?_
    refine z_iconst (v := 1) d_Que_writeTo_27 (by decide) ?_
    refine z_iload d_Que_writeTo_28 rfl ?_
    refine z_aload_n d_Que_writeTo_30 rfl ?_
    refine z_get d_Que_writeTo_31 f_Que_9 (by omega) rfl rfl ?_
    refine z_iload d_Que_writeTo_34 rfl ?_
    refine z_iald d_Que_writeTo_36 (by omega) rfl (show zin (nI i) i 2 from ⟨rfl, by omega, by decide⟩) ?_
    refine z_iconst (v := 0) d_Que_writeTo_37 (by decide) ?_
    rw [zwr_n J _ (show (33 : Nat) ≠ 15 ∧ (33 : Nat) ≠ 16 by decide)]
    refine z_callV0 d_Que_writeTo_38 g_Que_64 (c_app X J G _ (by rw [qOpens_l]; omega) 1 (nI i) (J 33 i) 0) (by omega) rfl rfl rfl ⟨by decide, by decide, by decide, by decide⟩ rfl (Nat.le_of_ble_eq_true rfl) ?_
    refine z_iinc (lv' := [(0, _), (1, _), (2, _), (3, _), (4, _), (5, _)]) d_Que_writeTo_41 (by decide) rfl (show _ + Int32.ofInt 1 = nI (i + 1) from nI_1 _) rfl ?_
    refine z_goto d_Que_writeTo_44 17 (by decide) ?_
    exact ih (i + 1) (by omega) (by omega)
set_option maxRecDepth 100000 in
set_option maxHeartbeats 4000000 in
theorem c_Que_writeTo (X : zX) (J : zJT) (G : zGT) {m mo nc : Nat} {jo : Bool} (hm : J 32 2 = nI m) (hm4 : m ≤ 4) (ho : J 32 1 = nI mo) (ho4 : mo ≤ 4) (hc : J 32 3 = nI nc) (hc1 : nc ≤ 2) (hj : J 32 10 = zb jo) (len : Int32) : zK X 5 m_Que_writeTo [.ref 32, .ref 15, .int len] J G none (zwr J (qProg J len nc m mo jo)) G := by
  refine zC_of (by decide) (Nat.le_of_ble_eq_true rfl) ?_
  refine z_iload_n d_Que_writeTo_0 rfl ?_
  refine z_iconst (v := 1) d_Que_writeTo_1 (by decide) ?_
  refine z_isub d_Que_writeTo_2 ?_
  refine z_istore_n (lv' := [(0, _), (1, _), (2, _), (3, _)]) d_Que_writeTo_3 (by decide) rfl ?_
  refine z_iload_n d_Que_writeTo_4 rfl ?_
  refine z_iconst (v := 1) d_Que_writeTo_5 (by decide) ?_
  refine z_isub d_Que_writeTo_6 ?_
  refine z_istore (lv' := [(0, _), (1, _), (2, _), (3, _), (4, _)]) d_Que_writeTo_7 (by decide) rfl ?_
  refine z_aload_n d_Que_writeTo_9 rfl ?_
  refine z_iconst (v := 0) d_Que_writeTo_10 (by decide) ?_
  refine z_put d_Que_writeTo_11 f_Que_57 p_6_0 (by omega) rfl (Nat.le_of_ble_eq_true rfl) rfl rfl (hp_pi 0 rfl) ?_
  refine z_iconst (v := 0) d_Que_writeTo_14 (by decide) ?_
  refine z_istore (lv' := [(0, _), (1, _), (2, _), (3, _), (4, _), (5, _)]) d_Que_writeTo_15 (by decide) rfl ?_
  refine z_loc (lv' := [(0, .ref 32), (1, .ref 15), (2, .int len), (3, .int (len - 1)), (4, .int (len - 1 - 1)), (5, .int (nI 0))]) (by simp [nI_0]) (z_heq ?_ (l_Que_writeTo X J G hm hm4 ho ho4 hc hc1 hj len nc 0 (by omega) (by omega)))
  rw [qOpens, zwr, zpw_nil, zu_self]; rfl
set_option maxRecDepth 100000 in
set_option maxHeartbeats 4000000 in
theorem c_Que_hasCursor (X : zX) (i : Int32) (J : zJT) (G : zGT) : zK X 1 m_Que_hasCursor [.ref 32, .int i] J G (some (.int (zb (decide (0 ≤ i) && decide (i < J 32 3))))) J G := by
  refine zC_of (by decide) (Nat.le_of_ble_eq_true rfl) ?_
  refine z_iload_n d_Que_hasCursor_0 rfl ?_
  refine z_aload_n d_Que_hasCursor_1 rfl ?_
  refine z_get d_Que_hasCursor_2 f_Que_22 (by omega) rfl rfl ?_
  refine z_callN1 d_Que_hasCursor_5 g_Que_53 (c_isIndex X 0 _ _ _ _) rfl ⟨by decide, by decide, by decide, by decide⟩ rfl (Nat.le_of_ble_eq_true rfl) ?_
  exact z_zret d_Que_hasCursor_8 rfl (by decide) (by decide) (zb_n _) rfl rfl
set_option maxRecDepth 100000 in
set_option maxHeartbeats 4000000 in
theorem c_Que_bringOutput (X : zX) (J : zJT) (G : zGT) {m : Nat} (hm : J 32 1 = nI m) (hm4 : m < 4) (c k : Int32) : zK X 0 m_Que_bringOutput [.ref 32, .int c, .int k] J G none (va_up (va_up (va_up J 34 (upd (J 34) m c)) 35 (upd (J 35) m k)) 32 (va_up (J 32) 1 (nI m + 1))) G := by
  refine zC_of (by decide) (Nat.le_of_ble_eq_true rfl) ?_
  refine z_aload_n d_Que_bringOutput_0 rfl ?_
  refine z_get d_Que_bringOutput_1 f_Que_25 (by omega) rfl rfl ?_
  refine z_aload_n d_Que_bringOutput_4 rfl ?_
  refine z_get d_Que_bringOutput_5 f_Que_15 (by omega) rfl rfl ?_
  refine z_iload_n d_Que_bringOutput_8 rfl ?_
  refine z_iast d_Que_bringOutput_9 (by omega) rfl (show zin (J 32 1) m 4 from ⟨hm, hm4, by decide⟩) (hp_ai rfl) ?_
  refine z_aload_n d_Que_bringOutput_10 rfl ?_
  refine z_get d_Que_bringOutput_11 f_Que_28 (by omega) rfl rfl ?_
  refine z_aload_n d_Que_bringOutput_14 rfl ?_
  refine z_get d_Que_bringOutput_15 f_Que_15 (by omega) rfl rfl ?_
  refine z_iload_n d_Que_bringOutput_18 rfl ?_
  refine z_iast d_Que_bringOutput_19 (by omega) rfl (show zin (J 32 1) m 4 from ⟨hm, hm4, by decide⟩) (hp_ai rfl) ?_
  refine z_aload_n d_Que_bringOutput_20 rfl ?_
  refine z_dup d_Que_bringOutput_21 rfl ?_
  refine z_get d_Que_bringOutput_22 f_Que_15 (by omega) rfl rfl ?_
  refine z_iconst (v := 1) d_Que_bringOutput_25 (by decide) ?_
  refine z_iadd d_Que_bringOutput_26 ?_
  refine z_put d_Que_bringOutput_27 f_Que_15 p_8_1 (by omega) rfl (Nat.le_of_ble_eq_true rfl) rfl rfl (hp_pi 1 rfl) ?_
  exact z_vret d_Que_bringOutput_30 rfl (by decide) (by decide) (by simp [zu_n, hm])
set_option maxRecDepth 100000 in
set_option maxHeartbeats 4000000 in
theorem c_Que_bringCondition (X : zX) (J : zJT) (G : zGT) {m : Nat} (hm : J 32 2 = nI m) (hm4 : m < 4) (c k o v : Int32) : zK X 0 m_Que_bringCondition [.ref 32, .int c, .int k, .int o, .int v] J G none (va_up (va_up (va_up (va_up (va_up J 36 (upd (J 36) m c)) 37 (upd (J 37) m k)) 38 (upd (J 38) m o)) 39 (upd (J 39) m v)) 32 (va_up (J 32) 2 (nI m + 1))) G := by
  refine zC_of (by decide) (Nat.le_of_ble_eq_true rfl) ?_
  refine z_aload_n d_Que_bringCondition_0 rfl ?_
  refine z_get d_Que_bringCondition_1 f_Que_31 (by omega) rfl rfl ?_
  refine z_aload_n d_Que_bringCondition_4 rfl ?_
  refine z_get d_Que_bringCondition_5 f_Que_19 (by omega) rfl rfl ?_
  refine z_iload_n d_Que_bringCondition_8 rfl ?_
  refine z_iast d_Que_bringCondition_9 (by omega) rfl (show zin (J 32 2) m 4 from ⟨hm, hm4, by decide⟩) (hp_ai rfl) ?_
  refine z_aload_n d_Que_bringCondition_10 rfl ?_
  refine z_get d_Que_bringCondition_11 f_Que_34 (by omega) rfl rfl ?_
  refine z_aload_n d_Que_bringCondition_14 rfl ?_
  refine z_get d_Que_bringCondition_15 f_Que_19 (by omega) rfl rfl ?_
  refine z_iload_n d_Que_bringCondition_18 rfl ?_
  refine z_iast d_Que_bringCondition_19 (by omega) rfl (show zin (J 32 2) m 4 from ⟨hm, hm4, by decide⟩) (hp_ai rfl) ?_
  refine z_aload_n d_Que_bringCondition_20 rfl ?_
  refine z_get d_Que_bringCondition_21 f_Que_37 (by omega) rfl rfl ?_
  refine z_aload_n d_Que_bringCondition_24 rfl ?_
  refine z_get d_Que_bringCondition_25 f_Que_19 (by omega) rfl rfl ?_
  refine z_iload_n d_Que_bringCondition_28 rfl ?_
  refine z_iast d_Que_bringCondition_29 (by omega) rfl (show zin (J 32 2) m 4 from ⟨hm, hm4, by decide⟩) (hp_ai rfl) ?_
  refine z_aload_n d_Que_bringCondition_30 rfl ?_
  refine z_get d_Que_bringCondition_31 f_Que_40 (by omega) rfl rfl ?_
  refine z_aload_n d_Que_bringCondition_34 rfl ?_
  refine z_get d_Que_bringCondition_35 f_Que_19 (by omega) rfl rfl ?_
  refine z_iload d_Que_bringCondition_38 rfl ?_
  refine z_iast d_Que_bringCondition_40 (by omega) rfl (show zin (J 32 2) m 4 from ⟨hm, hm4, by decide⟩) (hp_ai rfl) ?_
  refine z_aload_n d_Que_bringCondition_41 rfl ?_
  refine z_dup d_Que_bringCondition_42 rfl ?_
  refine z_get d_Que_bringCondition_43 f_Que_19 (by omega) rfl rfl ?_
  refine z_iconst (v := 1) d_Que_bringCondition_46 (by decide) ?_
  refine z_iadd d_Que_bringCondition_47 ?_
  refine z_put d_Que_bringCondition_48 f_Que_19 p_8_2 (by omega) rfl (Nat.le_of_ble_eq_true rfl) rfl rfl (hp_pi 2 rfl) ?_
  exact z_vret d_Que_bringCondition_51 rfl (by decide) (by decide) (by simp [zu_n, hm])
set_option maxRecDepth 100000 in
set_option maxHeartbeats 4000000 in
theorem c_Que_bringJoin (X : zX) (J : zJT) (G : zGT) (k l : Int32) : zK X 0 m_Que_bringJoin [.ref 32, .int k, .int l] J G none (va_up J 32 (va_up (va_up (va_up (J 32) 10 1) 11 k) 12 l)) G := by
  refine zC_of (by decide) (Nat.le_of_ble_eq_true rfl) ?_
  refine z_aload_n d_Que_bringJoin_0 rfl ?_
  refine z_iconst (v := 1) d_Que_bringJoin_1 (by decide) ?_
  refine z_put d_Que_bringJoin_2 f_Que_43 p_8_10 (by omega) rfl (Nat.le_of_ble_eq_true rfl) (zb_n true) (zb_f true) (hp_pi 10 rfl) ?_
  refine z_aload_n d_Que_bringJoin_5 rfl ?_
  refine z_iload_n d_Que_bringJoin_6 rfl ?_
  refine z_put d_Que_bringJoin_7 f_Que_47 p_8_11 (by omega) rfl (Nat.le_of_ble_eq_true rfl) rfl rfl (hp_pi 11 rfl) ?_
  refine z_aload_n d_Que_bringJoin_10 rfl ?_
  refine z_iload_n d_Que_bringJoin_11 rfl ?_
  refine z_put d_Que_bringJoin_12 f_Que_50 p_8_12 (by omega) rfl (Nat.le_of_ble_eq_true rfl) rfl rfl (hp_pi 12 rfl) ?_
  exact z_vret d_Que_bringJoin_15 rfl (by decide) (by decide) (by simp only [bx_uu, zu_s])
set_option maxRecDepth 100000 in
set_option maxHeartbeats 4000000 in
theorem c_Que_begin1 (X : zX) (J : zJT) (G : zGT) (t u : Int32) (hu : u = -1) : zK X 0 m_Que_begin [.ref 32, .int t, .int u] J G none (va_up (va_up J 33 (upd (upd (J 33) 0 t) 1 u)) 32 (va_up (va_up (va_up (va_up (J 32) 3 1) 1 0) 2 0) 10 0)) G := by
  refine zC_of (by decide) (Nat.le_of_ble_eq_true rfl) ?_
  refine z_aload_n d_Que_begin_0 rfl ?_
  refine z_get d_Que_begin_1 f_Que_9 (by omega) rfl rfl ?_
  refine z_iconst (v := 0) d_Que_begin_4 (by decide) ?_
  refine z_iload_n d_Que_begin_5 rfl ?_
  refine z_iast d_Que_begin_6 (by omega) rfl ⟨rfl, by decide, by decide⟩ (hp_ai rfl) ?_
  refine z_aload_n d_Que_begin_7 rfl ?_
  refine z_get d_Que_begin_8 f_Que_9 (by omega) rfl rfl ?_
  refine z_iconst (v := 1) d_Que_begin_11 (by decide) ?_
  refine z_iload_n d_Que_begin_12 rfl ?_
  refine z_iast d_Que_begin_13 (by omega) rfl ⟨rfl, by decide, by decide⟩ (hp_ai rfl) ?_
  refine z_aload_n d_Que_begin_14 rfl ?_
  refine z_iload_n d_Que_begin_15 rfl ?_
  refine z_iconst (v := (-1)) d_Que_begin_16 (by decide) ?_
  refine z_icmp_ne d_Que_begin_17 24 (by decide) (fun h9 => absurd h9 (fun h9 => h9 hu)) (fun _ => ?_)
  refine z_iconst (v := 1) d_Que_begin_20 (by decide) ?_
  refine z_goto d_Que_begin_21 25 (by decide) ?_
  refine z_put d_Que_begin_25 f_Que_22 p_8_3 (by omega) rfl (Nat.le_of_ble_eq_true rfl) rfl rfl (hp_pi 3 rfl) ?_
  refine z_aload_n d_Que_begin_28 rfl ?_
  refine z_iconst (v := 0) d_Que_begin_29 (by decide) ?_
  refine z_put d_Que_begin_30 f_Que_15 p_8_1 (by omega) rfl (Nat.le_of_ble_eq_true rfl) rfl rfl (hp_pi 1 rfl) ?_
  refine z_aload_n d_Que_begin_33 rfl ?_
  refine z_iconst (v := 0) d_Que_begin_34 (by decide) ?_
  refine z_put d_Que_begin_35 f_Que_19 p_8_2 (by omega) rfl (Nat.le_of_ble_eq_true rfl) rfl rfl (hp_pi 2 rfl) ?_
  refine z_aload_n d_Que_begin_38 rfl ?_
  refine z_iconst (v := 0) d_Que_begin_39 (by decide) ?_
  refine z_put d_Que_begin_40 f_Que_43 p_8_10 (by omega) rfl (Nat.le_of_ble_eq_true rfl) (zb_n false) (zb_f false) (hp_pi 10 rfl) ?_
  exact z_vret d_Que_begin_43 rfl (by decide) (by decide) (by simp [bx_uu, zu_s, zu_n])
set_option maxRecDepth 100000 in
set_option maxHeartbeats 4000000 in
theorem c_Que_begin2 (X : zX) (J : zJT) (G : zGT) (t u : Int32) (hu : ¬ u = -1) : zK X 0 m_Que_begin [.ref 32, .int t, .int u] J G none (va_up (va_up J 33 (upd (upd (J 33) 0 t) 1 u)) 32 (va_up (va_up (va_up (va_up (J 32) 3 2) 1 0) 2 0) 10 0)) G := by
  refine zC_of (by decide) (Nat.le_of_ble_eq_true rfl) ?_
  refine z_aload_n d_Que_begin_0 rfl ?_
  refine z_get d_Que_begin_1 f_Que_9 (by omega) rfl rfl ?_
  refine z_iconst (v := 0) d_Que_begin_4 (by decide) ?_
  refine z_iload_n d_Que_begin_5 rfl ?_
  refine z_iast d_Que_begin_6 (by omega) rfl ⟨rfl, by decide, by decide⟩ (hp_ai rfl) ?_
  refine z_aload_n d_Que_begin_7 rfl ?_
  refine z_get d_Que_begin_8 f_Que_9 (by omega) rfl rfl ?_
  refine z_iconst (v := 1) d_Que_begin_11 (by decide) ?_
  refine z_iload_n d_Que_begin_12 rfl ?_
  refine z_iast d_Que_begin_13 (by omega) rfl ⟨rfl, by decide, by decide⟩ (hp_ai rfl) ?_
  refine z_aload_n d_Que_begin_14 rfl ?_
  refine z_iload_n d_Que_begin_15 rfl ?_
  refine z_iconst (v := (-1)) d_Que_begin_16 (by decide) ?_
  refine z_icmp_ne d_Que_begin_17 24 (by decide) (fun _ => ?_) (fun h9 => absurd h9 hu)
  refine z_iconst (v := 2) d_Que_begin_24 (by decide) ?_
  refine z_put d_Que_begin_25 f_Que_22 p_8_3 (by omega) rfl (Nat.le_of_ble_eq_true rfl) rfl rfl (hp_pi 3 rfl) ?_
  refine z_aload_n d_Que_begin_28 rfl ?_
  refine z_iconst (v := 0) d_Que_begin_29 (by decide) ?_
  refine z_put d_Que_begin_30 f_Que_15 p_8_1 (by omega) rfl (Nat.le_of_ble_eq_true rfl) rfl rfl (hp_pi 1 rfl) ?_
  refine z_aload_n d_Que_begin_33 rfl ?_
  refine z_iconst (v := 0) d_Que_begin_34 (by decide) ?_
  refine z_put d_Que_begin_35 f_Que_19 p_8_2 (by omega) rfl (Nat.le_of_ble_eq_true rfl) rfl rfl (hp_pi 2 rfl) ?_
  refine z_aload_n d_Que_begin_38 rfl ?_
  refine z_iconst (v := 0) d_Que_begin_39 (by decide) ?_
  refine z_put d_Que_begin_40 f_Que_43 p_8_10 (by omega) rfl (Nat.le_of_ble_eq_true rfl) (zb_n false) (zb_f false) (hp_pi 10 rfl) ?_
  exact z_vret d_Que_begin_43 rfl (by decide) (by decide) (by simp [bx_uu, zu_s, zu_n])
end
