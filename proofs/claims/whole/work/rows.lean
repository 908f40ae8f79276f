section
-- ===== PART A: goes FIRST, ahead of the names: the tables' words, and 'selects' of the private methods out of them =====
/-- a private method of a class that the tables say can be made, by its rows of tables_1 -/
def lw_okq (q : MethodName × Nat) : Prop := (q.1.cls ≠ "java/lang/invoke/MethodHandle" ∧ q.1.cls ≠ "java/lang/invoke/VarHandle") ∧ Cond.instantiable q.1.cls q.2 ∈ tables_1 ∧ Cond.privateMethod q.1 ∈ tables_1 ∧ Cond.instanceMethod q.1 ∈ tables_1
theorem lw_p0 : lw_okq (⟨"TableMachine", "canAskFor", "(II)Z"⟩, 6) := ⟨⟨by decide +kernel, by decide +kernel⟩, List.mem_of_getElem? (i := 22) (by decide +kernel), List.mem_of_getElem? (i := 294) (by decide +kernel), List.mem_of_getElem? (i := 295) (by decide +kernel)⟩
theorem lw_p1 : lw_okq (⟨"java/lang/Throwable", "fillInStackTrace", "(I)Ljava/lang/Throwable;"⟩, 6) := ⟨⟨by decide +kernel, by decide +kernel⟩, List.mem_of_getElem? (i := 376) (by decide +kernel), List.mem_of_getElem? (i := 374) (by decide +kernel), List.mem_of_getElem? (i := 375) (by decide +kernel)⟩
theorem lw_p2 : lw_okq (⟨"TableMachine", "requireTable", "(I)V"⟩, 6) := ⟨⟨by decide +kernel, by decide +kernel⟩, List.mem_of_getElem? (i := 22) (by decide +kernel), List.mem_of_getElem? (i := 433) (by decide +kernel), List.mem_of_getElem? (i := 434) (by decide +kernel)⟩
theorem lw_p3 : lw_okq (⟨"TableMachine$Store", "isAt", "(IIJ)Z"⟩, 6) := ⟨⟨by decide +kernel, by decide +kernel⟩, List.mem_of_getElem? (i := 36) (by decide +kernel), List.mem_of_getElem? (i := 452) (by decide +kernel), List.mem_of_getElem? (i := 453) (by decide +kernel)⟩
theorem lw_p4 : lw_okq (⟨"TableMachine", "requireCell", "(IJI)I"⟩, 6) := ⟨⟨by decide +kernel, by decide +kernel⟩, List.mem_of_getElem? (i := 22) (by decide +kernel), List.mem_of_getElem? (i := 519) (by decide +kernel), List.mem_of_getElem? (i := 520) (by decide +kernel)⟩
theorem lw_p5 : lw_okq (⟨"TableMachine$Machine", "reset", "()V"⟩, 6) := ⟨⟨by decide +kernel, by decide +kernel⟩, List.mem_of_getElem? (i := 30) (by decide +kernel), List.mem_of_getElem? (i := 620) (by decide +kernel), List.mem_of_getElem? (i := 621) (by decide +kernel)⟩
theorem lw_p6 : lw_okq (⟨"TableMachine$Machine", "useCursor", "(II)I"⟩, 6) := ⟨⟨by decide +kernel, by decide +kernel⟩, List.mem_of_getElem? (i := 30) (by decide +kernel), List.mem_of_getElem? (i := 641) (by decide +kernel), List.mem_of_getElem? (i := 642) (by decide +kernel)⟩
theorem lw_p7 : lw_okq (⟨"TableMachine$Machine", "end", "(I)I"⟩, 6) := ⟨⟨by decide +kernel, by decide +kernel⟩, List.mem_of_getElem? (i := 30) (by decide +kernel), List.mem_of_getElem? (i := 649) (by decide +kernel), List.mem_of_getElem? (i := 650) (by decide +kernel)⟩
theorem lw_p8 : lw_okq (⟨"TableMachine$Machine", "moveTo", "(LTableMachine$Cursor;I)Z"⟩, 6) := ⟨⟨by decide +kernel, by decide +kernel⟩, List.mem_of_getElem? (i := 30) (by decide +kernel), List.mem_of_getElem? (i := 653) (by decide +kernel), List.mem_of_getElem? (i := 654) (by decide +kernel)⟩
theorem lw_p9 : lw_okq (⟨"TableMachine$Machine", "advance", "(LTableMachine$Cursor;)Z"⟩, 6) := ⟨⟨by decide +kernel, by decide +kernel⟩, List.mem_of_getElem? (i := 30) (by decide +kernel), List.mem_of_getElem? (i := 659) (by decide +kernel), List.mem_of_getElem? (i := 660) (by decide +kernel)⟩
theorem lw_p10 : lw_okq (⟨"TableMachine$Machine", "readColumn", "(LTableMachine$Cursor;II)V"⟩, 6) := ⟨⟨by decide +kernel, by decide +kernel⟩, List.mem_of_getElem? (i := 30) (by decide +kernel), List.mem_of_getElem? (i := 664) (by decide +kernel), List.mem_of_getElem? (i := 665) (by decide +kernel)⟩
theorem lw_p11 : lw_okq (⟨"TableMachine$Machine", "slotAt", "(LTableMachine$Cursor;)I"⟩, 6) := ⟨⟨by decide +kernel, by decide +kernel⟩, List.mem_of_getElem? (i := 30) (by decide +kernel), List.mem_of_getElem? (i := 668) (by decide +kernel), List.mem_of_getElem? (i := 669) (by decide +kernel)⟩
theorem lw_p12 : lw_okq (⟨"TableMachine$Machine", "readKey", "(LTableMachine$Cursor;I)V"⟩, 6) := ⟨⟨by decide +kernel, by decide +kernel⟩, List.mem_of_getElem? (i := 30) (by decide +kernel), List.mem_of_getElem? (i := 676) (by decide +kernel), List.mem_of_getElem? (i := 677) (by decide +kernel)⟩
theorem lw_p13 : lw_okq (⟨"TableMachine$Machine", "seek", "(LTableMachine$Cursor;I)Z"⟩, 6) := ⟨⟨by decide +kernel, by decide +kernel⟩, List.mem_of_getElem? (i := 30) (by decide +kernel), List.mem_of_getElem? (i := 681) (by decide +kernel), List.mem_of_getElem? (i := 682) (by decide +kernel)⟩
theorem lw_p14 : lw_okq (⟨"TableMachine$Machine", "bringRow", "(LTableMachine$Cursor;I)Z"⟩, 6) := ⟨⟨by decide +kernel, by decide +kernel⟩, List.mem_of_getElem? (i := 30) (by decide +kernel), List.mem_of_getElem? (i := 687) (by decide +kernel), List.mem_of_getElem? (i := 688) (by decide +kernel)⟩
theorem lw_p15 : lw_okq (⟨"TableMachine$Machine", "dropRow", "(LTableMachine$Cursor;)V"⟩, 6) := ⟨⟨by decide +kernel, by decide +kernel⟩, List.mem_of_getElem? (i := 30) (by decide +kernel), List.mem_of_getElem? (i := 692) (by decide +kernel), List.mem_of_getElem? (i := 693) (by decide +kernel)⟩
def lw_privs_1 : List (MethodName × Nat) := [(⟨"TableMachine", "canAskFor", "(II)Z"⟩, 6), (⟨"java/lang/Throwable", "fillInStackTrace", "(I)Ljava/lang/Throwable;"⟩, 6), (⟨"TableMachine", "requireTable", "(I)V"⟩, 6), (⟨"TableMachine$Store", "isAt", "(IIJ)Z"⟩, 6), (⟨"TableMachine", "requireCell", "(IJI)I"⟩, 6), (⟨"TableMachine$Machine", "reset", "()V"⟩, 6), (⟨"TableMachine$Machine", "useCursor", "(II)I"⟩, 6), (⟨"TableMachine$Machine", "end", "(I)I"⟩, 6), (⟨"TableMachine$Machine", "moveTo", "(LTableMachine$Cursor;I)Z"⟩, 6), (⟨"TableMachine$Machine", "advance", "(LTableMachine$Cursor;)Z"⟩, 6), (⟨"TableMachine$Machine", "readColumn", "(LTableMachine$Cursor;II)V"⟩, 6), (⟨"TableMachine$Machine", "slotAt", "(LTableMachine$Cursor;)I"⟩, 6), (⟨"TableMachine$Machine", "readKey", "(LTableMachine$Cursor;I)V"⟩, 6), (⟨"TableMachine$Machine", "seek", "(LTableMachine$Cursor;I)Z"⟩, 6), (⟨"TableMachine$Machine", "bringRow", "(LTableMachine$Cursor;I)Z"⟩, 6), (⟨"TableMachine$Machine", "dropRow", "(LTableMachine$Cursor;)V"⟩, 6)]
theorem lw_r1 : ∀ q ∈ lw_privs_1, lw_okq q := List.forall_mem_cons.mpr ⟨lw_p0, List.forall_mem_cons.mpr ⟨lw_p1, List.forall_mem_cons.mpr ⟨lw_p2, List.forall_mem_cons.mpr ⟨lw_p3, List.forall_mem_cons.mpr ⟨lw_p4, List.forall_mem_cons.mpr ⟨lw_p5, List.forall_mem_cons.mpr ⟨lw_p6, List.forall_mem_cons.mpr ⟨lw_p7, List.forall_mem_cons.mpr ⟨lw_p8, List.forall_mem_cons.mpr ⟨lw_p9, List.forall_mem_cons.mpr ⟨lw_p10, List.forall_mem_cons.mpr ⟨lw_p11, List.forall_mem_cons.mpr ⟨lw_p12, List.forall_mem_cons.mpr ⟨lw_p13, List.forall_mem_cons.mpr ⟨lw_p14, List.forall_mem_cons.mpr ⟨lw_p15, fun _ h => absurd h List.not_mem_nil⟩⟩⟩⟩⟩⟩⟩⟩⟩⟩⟩⟩⟩⟩⟩⟩
theorem lw_p16 : lw_okq (⟨"TableMachine$Machine", "compute", "(II)I"⟩, 6) := ⟨⟨by decide +kernel, by decide +kernel⟩, List.mem_of_getElem? (i := 30) (by decide +kernel), List.mem_of_getElem? (i := 697) (by decide +kernel), List.mem_of_getElem? (i := 698) (by decide +kernel)⟩
theorem lw_p17 : lw_okq (⟨"TableMachine$Machine", "sum", "(III)V"⟩, 6) := ⟨⟨by decide +kernel, by decide +kernel⟩, List.mem_of_getElem? (i := 30) (by decide +kernel), List.mem_of_getElem? (i := 702) (by decide +kernel), List.mem_of_getElem? (i := 703) (by decide +kernel)⟩
theorem lw_p18 : lw_okq (⟨"TableMachine$Machine", "holds", "(III)Z"⟩, 6) := ⟨⟨by decide +kernel, by decide +kernel⟩, List.mem_of_getElem? (i := 30) (by decide +kernel), List.mem_of_getElem? (i := 711) (by decide +kernel), List.mem_of_getElem? (i := 712) (by decide +kernel)⟩
theorem lw_p19 : lw_okq (⟨"TableMachine", "requireResult", "(II)I"⟩, 6) := ⟨⟨by decide +kernel, by decide +kernel⟩, List.mem_of_getElem? (i := 22) (by decide +kernel), List.mem_of_getElem? (i := 730) (by decide +kernel), List.mem_of_getElem? (i := 731) (by decide +kernel)⟩
theorem lw_p20 : lw_okq (⟨"TableMachine$Question", "writeStart", "(LTableMachine$Program;II)V"⟩, 13) := ⟨⟨by decide +kernel, by decide +kernel⟩, List.mem_of_getElem? (i := 186) (by decide +kernel), List.mem_of_getElem? (i := 755) (by decide +kernel), List.mem_of_getElem? (i := 756) (by decide +kernel)⟩
theorem lw_p21 : lw_okq (⟨"TableMachine$Question", "seekable", "(I)I"⟩, 13) := ⟨⟨by decide +kernel, by decide +kernel⟩, List.mem_of_getElem? (i := 186) (by decide +kernel), List.mem_of_getElem? (i := 759) (by decide +kernel), List.mem_of_getElem? (i := 760) (by decide +kernel)⟩
theorem lw_p22 : lw_okq (⟨"TableMachine$Question", "writeConditions", "(LTableMachine$Program;II)V"⟩, 13) := ⟨⟨by decide +kernel, by decide +kernel⟩, List.mem_of_getElem? (i := 186) (by decide +kernel), List.mem_of_getElem? (i := 766) (by decide +kernel), List.mem_of_getElem? (i := 767) (by decide +kernel)⟩
theorem lw_p23 : lw_okq (⟨"TableMachine$Question", "writeCondition", "(LTableMachine$Program;II)V"⟩, 13) := ⟨⟨by decide +kernel, by decide +kernel⟩, List.mem_of_getElem? (i := 186) (by decide +kernel), List.mem_of_getElem? (i := 770) (by decide +kernel), List.mem_of_getElem? (i := 771) (by decide +kernel)⟩
theorem lw_p24 : lw_okq (⟨"TableMachine$Question", "writeColumn", "(LTableMachine$Program;III)V"⟩, 13) := ⟨⟨by decide +kernel, by decide +kernel⟩, List.mem_of_getElem? (i := 186) (by decide +kernel), List.mem_of_getElem? (i := 774) (by decide +kernel), List.mem_of_getElem? (i := 775) (by decide +kernel)⟩
theorem lw_p25 : lw_okq (⟨"TableMachine$Question", "writeTest", "(LTableMachine$Program;III)V"⟩, 13) := ⟨⟨by decide +kernel, by decide +kernel⟩, List.mem_of_getElem? (i := 186) (by decide +kernel), List.mem_of_getElem? (i := 778) (by decide +kernel), List.mem_of_getElem? (i := 779) (by decide +kernel)⟩
theorem lw_p26 : lw_okq (⟨"TableMachine$Question", "writeInnerLoop", "(LTableMachine$Program;I)V"⟩, 13) := ⟨⟨by decide +kernel, by decide +kernel⟩, List.mem_of_getElem? (i := 186) (by decide +kernel), List.mem_of_getElem? (i := 782) (by decide +kernel), List.mem_of_getElem? (i := 783) (by decide +kernel)⟩
theorem lw_p27 : lw_okq (⟨"TableMachine$Question", "writeJoin", "(LTableMachine$Program;I)V"⟩, 13) := ⟨⟨by decide +kernel, by decide +kernel⟩, List.mem_of_getElem? (i := 186) (by decide +kernel), List.mem_of_getElem? (i := 786) (by decide +kernel), List.mem_of_getElem? (i := 787) (by decide +kernel)⟩
theorem lw_p28 : lw_okq (⟨"TableMachine$Question", "writeOutputs", "(LTableMachine$Program;)V"⟩, 13) := ⟨⟨by decide +kernel, by decide +kernel⟩, List.mem_of_getElem? (i := 186) (by decide +kernel), List.mem_of_getElem? (i := 790) (by decide +kernel), List.mem_of_getElem? (i := 791) (by decide +kernel)⟩
theorem lw_p29 : lw_okq (⟨"TableMachineModel", "isTable", "(I)Z"⟩, 32) := ⟨⟨by decide +kernel, by decide +kernel⟩, List.mem_of_getElem? (i := 794) (by decide +kernel), List.mem_of_getElem? (i := 913) (by decide +kernel), List.mem_of_getElem? (i := 914) (by decide +kernel)⟩
theorem lw_p30 : lw_okq (⟨"TableMachineModel", "rowOf", "(IJ)I"⟩, 32) := ⟨⟨by decide +kernel, by decide +kernel⟩, List.mem_of_getElem? (i := 794) (by decide +kernel), List.mem_of_getElem? (i := 917) (by decide +kernel), List.mem_of_getElem? (i := 918) (by decide +kernel)⟩
theorem lw_p31 : lw_okq (⟨"TableMachineModel", "lay", "(IJIZJ)V"⟩, 32) := ⟨⟨by decide +kernel, by decide +kernel⟩, List.mem_of_getElem? (i := 794) (by decide +kernel), List.mem_of_getElem? (i := 921) (by decide +kernel), List.mem_of_getElem? (i := 922) (by decide +kernel)⟩
def lw_privs_2 : List (MethodName × Nat) := [(⟨"TableMachine$Machine", "compute", "(II)I"⟩, 6), (⟨"TableMachine$Machine", "sum", "(III)V"⟩, 6), (⟨"TableMachine$Machine", "holds", "(III)Z"⟩, 6), (⟨"TableMachine", "requireResult", "(II)I"⟩, 6), (⟨"TableMachine$Question", "writeStart", "(LTableMachine$Program;II)V"⟩, 13), (⟨"TableMachine$Question", "seekable", "(I)I"⟩, 13), (⟨"TableMachine$Question", "writeConditions", "(LTableMachine$Program;II)V"⟩, 13), (⟨"TableMachine$Question", "writeCondition", "(LTableMachine$Program;II)V"⟩, 13), (⟨"TableMachine$Question", "writeColumn", "(LTableMachine$Program;III)V"⟩, 13), (⟨"TableMachine$Question", "writeTest", "(LTableMachine$Program;III)V"⟩, 13), (⟨"TableMachine$Question", "writeInnerLoop", "(LTableMachine$Program;I)V"⟩, 13), (⟨"TableMachine$Question", "writeJoin", "(LTableMachine$Program;I)V"⟩, 13), (⟨"TableMachine$Question", "writeOutputs", "(LTableMachine$Program;)V"⟩, 13), (⟨"TableMachineModel", "isTable", "(I)Z"⟩, 32), (⟨"TableMachineModel", "rowOf", "(IJ)I"⟩, 32), (⟨"TableMachineModel", "lay", "(IJIZJ)V"⟩, 32)]
theorem lw_r2 : ∀ q ∈ lw_privs_2, lw_okq q := List.forall_mem_cons.mpr ⟨lw_p16, List.forall_mem_cons.mpr ⟨lw_p17, List.forall_mem_cons.mpr ⟨lw_p18, List.forall_mem_cons.mpr ⟨lw_p19, List.forall_mem_cons.mpr ⟨lw_p20, List.forall_mem_cons.mpr ⟨lw_p21, List.forall_mem_cons.mpr ⟨lw_p22, List.forall_mem_cons.mpr ⟨lw_p23, List.forall_mem_cons.mpr ⟨lw_p24, List.forall_mem_cons.mpr ⟨lw_p25, List.forall_mem_cons.mpr ⟨lw_p26, List.forall_mem_cons.mpr ⟨lw_p27, List.forall_mem_cons.mpr ⟨lw_p28, List.forall_mem_cons.mpr ⟨lw_p29, List.forall_mem_cons.mpr ⟨lw_p30, List.forall_mem_cons.mpr ⟨lw_p31, fun _ h => absurd h List.not_mem_nil⟩⟩⟩⟩⟩⟩⟩⟩⟩⟩⟩⟩⟩⟩⟩⟩
theorem lw_p32 : lw_okq (⟨"TableMachineModel", "take", "(I)V"⟩, 32) := ⟨⟨by decide +kernel, by decide +kernel⟩, List.mem_of_getElem? (i := 794) (by decide +kernel), List.mem_of_getElem? (i := 929) (by decide +kernel), List.mem_of_getElem? (i := 930) (by decide +kernel)⟩
theorem lw_p33 : lw_okq (⟨"TableMachineModel", "rowFrom", "(IJZ)I"⟩, 32) := ⟨⟨by decide +kernel, by decide +kernel⟩, List.mem_of_getElem? (i := 794) (by decide +kernel), List.mem_of_getElem? (i := 941) (by decide +kernel), List.mem_of_getElem? (i := 942) (by decide +kernel)⟩
theorem lw_p34 : lw_okq (⟨"TableMachineModel", "asked", "(IJI)I"⟩, 32) := ⟨⟨by decide +kernel, by decide +kernel⟩, List.mem_of_getElem? (i := 794) (by decide +kernel), List.mem_of_getElem? (i := 949) (by decide +kernel), List.mem_of_getElem? (i := 950) (by decide +kernel)⟩
theorem lw_p35 : lw_okq (⟨"TableMachineModel", "put", "(IIII)V"⟩, 32) := ⟨⟨by decide +kernel, by decide +kernel⟩, List.mem_of_getElem? (i := 794) (by decide +kernel), List.mem_of_getElem? (i := 967) (by decide +kernel), List.mem_of_getElem? (i := 968) (by decide +kernel)⟩
theorem lw_p36 : lw_okq (⟨"TableMachineModel", "sound", "()Z"⟩, 32) := ⟨⟨by decide +kernel, by decide +kernel⟩, List.mem_of_getElem? (i := 794) (by decide +kernel), List.mem_of_getElem? (i := 986) (by decide +kernel), List.mem_of_getElem? (i := 987) (by decide +kernel)⟩
theorem lw_p37 : lw_okq (⟨"TableMachineModel", "keep", "(IZJ)V"⟩, 32) := ⟨⟨by decide +kernel, by decide +kernel⟩, List.mem_of_getElem? (i := 794) (by decide +kernel), List.mem_of_getElem? (i := 993) (by decide +kernel), List.mem_of_getElem? (i := 994) (by decide +kernel)⟩
theorem lw_p38 : lw_okq (⟨"TableMachineModel", "step", "()Z"⟩, 32) := ⟨⟨by decide +kernel, by decide +kernel⟩, List.mem_of_getElem? (i := 794) (by decide +kernel), List.mem_of_getElem? (i := 997) (by decide +kernel), List.mem_of_getElem? (i := 998) (by decide +kernel)⟩
theorem lw_p39 : lw_okq (⟨"TableMachineModel", "withCursor", "(IIII)Z"⟩, 32) := ⟨⟨by decide +kernel, by decide +kernel⟩, List.mem_of_getElem? (i := 794) (by decide +kernel), List.mem_of_getElem? (i := 1004) (by decide +kernel), List.mem_of_getElem? (i := 1005) (by decide +kernel)⟩
theorem lw_p40 : lw_okq (⟨"TableMachineModel", "firstRow", "(I)I"⟩, 32) := ⟨⟨by decide +kernel, by decide +kernel⟩, List.mem_of_getElem? (i := 794) (by decide +kernel), List.mem_of_getElem? (i := 1008) (by decide +kernel), List.mem_of_getElem? (i := 1009) (by decide +kernel)⟩
theorem lw_p41 : lw_okq (⟨"TableMachineModel", "point", "(II)V"⟩, 32) := ⟨⟨by decide +kernel, by decide +kernel⟩, List.mem_of_getElem? (i := 794) (by decide +kernel), List.mem_of_getElem? (i := 1012) (by decide +kernel), List.mem_of_getElem? (i := 1013) (by decide +kernel)⟩
theorem lw_p42 : lw_okq (⟨"TableMachineModel", "rowAt", "(I)I"⟩, 32) := ⟨⟨by decide +kernel, by decide +kernel⟩, List.mem_of_getElem? (i := 794) (by decide +kernel), List.mem_of_getElem? (i := 1016) (by decide +kernel), List.mem_of_getElem? (i := 1017) (by decide +kernel)⟩
theorem lw_p43 : lw_okq (⟨"TableMachineModel", "without", "(IIII)Z"⟩, 32) := ⟨⟨by decide +kernel, by decide +kernel⟩, List.mem_of_getElem? (i := 794) (by decide +kernel), List.mem_of_getElem? (i := 1020) (by decide +kernel), List.mem_of_getElem? (i := 1021) (by decide +kernel)⟩
theorem lw_p44 : lw_okq (⟨"TableMachineModel", "compares", "(IJJ)Z"⟩, 32) := ⟨⟨by decide +kernel, by decide +kernel⟩, List.mem_of_getElem? (i := 794) (by decide +kernel), List.mem_of_getElem? (i := 1024) (by decide +kernel), List.mem_of_getElem? (i := 1025) (by decide +kernel)⟩
theorem lw_p45 : lw_okq (⟨"TableMachineModel", "isColumn", "(II)Z"⟩, 32) := ⟨⟨by decide +kernel, by decide +kernel⟩, List.mem_of_getElem? (i := 794) (by decide +kernel), List.mem_of_getElem? (i := 1044) (by decide +kernel), List.mem_of_getElem? (i := 1045) (by decide +kernel)⟩
theorem lw_p46 : lw_okq (⟨"TableMachineModel", "tableOf", "(I)I"⟩, 32) := ⟨⟨by decide +kernel, by decide +kernel⟩, List.mem_of_getElem? (i := 794) (by decide +kernel), List.mem_of_getElem? (i := 1048) (by decide +kernel), List.mem_of_getElem? (i := 1049) (by decide +kernel)⟩
theorem lw_p47 : lw_okq (⟨"TableMachineModel", "length", "(I)I"⟩, 32) := ⟨⟨by decide +kernel, by decide +kernel⟩, List.mem_of_getElem? (i := 794) (by decide +kernel), List.mem_of_getElem? (i := 1064) (by decide +kernel), List.mem_of_getElem? (i := 1065) (by decide +kernel)⟩
def lw_privs_3 : List (MethodName × Nat) := [(⟨"TableMachineModel", "take", "(I)V"⟩, 32), (⟨"TableMachineModel", "rowFrom", "(IJZ)I"⟩, 32), (⟨"TableMachineModel", "asked", "(IJI)I"⟩, 32), (⟨"TableMachineModel", "put", "(IIII)V"⟩, 32), (⟨"TableMachineModel", "sound", "()Z"⟩, 32), (⟨"TableMachineModel", "keep", "(IZJ)V"⟩, 32), (⟨"TableMachineModel", "step", "()Z"⟩, 32), (⟨"TableMachineModel", "withCursor", "(IIII)Z"⟩, 32), (⟨"TableMachineModel", "firstRow", "(I)I"⟩, 32), (⟨"TableMachineModel", "point", "(II)V"⟩, 32), (⟨"TableMachineModel", "rowAt", "(I)I"⟩, 32), (⟨"TableMachineModel", "without", "(IIII)Z"⟩, 32), (⟨"TableMachineModel", "compares", "(IJJ)Z"⟩, 32), (⟨"TableMachineModel", "isColumn", "(II)Z"⟩, 32), (⟨"TableMachineModel", "tableOf", "(I)I"⟩, 32), (⟨"TableMachineModel", "length", "(I)I"⟩, 32)]
theorem lw_r3 : ∀ q ∈ lw_privs_3, lw_okq q := List.forall_mem_cons.mpr ⟨lw_p32, List.forall_mem_cons.mpr ⟨lw_p33, List.forall_mem_cons.mpr ⟨lw_p34, List.forall_mem_cons.mpr ⟨lw_p35, List.forall_mem_cons.mpr ⟨lw_p36, List.forall_mem_cons.mpr ⟨lw_p37, List.forall_mem_cons.mpr ⟨lw_p38, List.forall_mem_cons.mpr ⟨lw_p39, List.forall_mem_cons.mpr ⟨lw_p40, List.forall_mem_cons.mpr ⟨lw_p41, List.forall_mem_cons.mpr ⟨lw_p42, List.forall_mem_cons.mpr ⟨lw_p43, List.forall_mem_cons.mpr ⟨lw_p44, List.forall_mem_cons.mpr ⟨lw_p45, List.forall_mem_cons.mpr ⟨lw_p46, List.forall_mem_cons.mpr ⟨lw_p47, fun _ h => absurd h List.not_mem_nil⟩⟩⟩⟩⟩⟩⟩⟩⟩⟩⟩⟩⟩⟩⟩⟩
theorem lw_p48 : lw_okq (⟨"TableMachineModel", "seeker", "(I)I"⟩, 32) := ⟨⟨by decide +kernel, by decide +kernel⟩, List.mem_of_getElem? (i := 794) (by decide +kernel), List.mem_of_getElem? (i := 1068) (by decide +kernel), List.mem_of_getElem? (i := 1069) (by decide +kernel)⟩
theorem lw_p49 : lw_okq (⟨"TableMachineModel", "loop", "(III)I"⟩, 32) := ⟨⟨by decide +kernel, by decide +kernel⟩, List.mem_of_getElem? (i := 794) (by decide +kernel), List.mem_of_getElem? (i := 1072) (by decide +kernel), List.mem_of_getElem? (i := 1073) (by decide +kernel)⟩
theorem lw_p50 : lw_okq (⟨"TableMachineModel", "read", "(III)V"⟩, 32) := ⟨⟨by decide +kernel, by decide +kernel⟩, List.mem_of_getElem? (i := 794) (by decide +kernel), List.mem_of_getElem? (i := 1076) (by decide +kernel), List.mem_of_getElem? (i := 1077) (by decide +kernel)⟩
theorem lw_p51 : lw_okq (⟨"TableMachineModel", "outputsAndResult", "()V"⟩, 32) := ⟨⟨by decide +kernel, by decide +kernel⟩, List.mem_of_getElem? (i := 794) (by decide +kernel), List.mem_of_getElem? (i := 1080) (by decide +kernel), List.mem_of_getElem? (i := 1081) (by decide +kernel)⟩
def lw_privs_4 : List (MethodName × Nat) := [(⟨"TableMachineModel", "seeker", "(I)I"⟩, 32), (⟨"TableMachineModel", "loop", "(III)I"⟩, 32), (⟨"TableMachineModel", "read", "(III)V"⟩, 32), (⟨"TableMachineModel", "outputsAndResult", "()V"⟩, 32)]
theorem lw_r4 : ∀ q ∈ lw_privs_4, lw_okq q := List.forall_mem_cons.mpr ⟨lw_p48, List.forall_mem_cons.mpr ⟨lw_p49, List.forall_mem_cons.mpr ⟨lw_p50, List.forall_mem_cons.mpr ⟨lw_p51, fun _ h => absurd h List.not_mem_nil⟩⟩⟩⟩
def lw_privs : List (MethodName × Nat) := lw_privs_1 ++ (lw_privs_2 ++ (lw_privs_3 ++ (lw_privs_4)))
def lw_tbl : List Cond := k2_sels lw_privs ++ tables_1
theorem lw_privs_ok : ∀ q ∈ lw_privs, lw_okq q := by
  show ∀ q ∈ lw_privs_1 ++ (lw_privs_2 ++ (lw_privs_3 ++ (lw_privs_4))), lw_okq q
  exact List.forall_mem_append.mpr ⟨lw_r1, List.forall_mem_append.mpr ⟨lw_r2, List.forall_mem_append.mpr ⟨lw_r3, lw_r4⟩⟩⟩
end
section
/-! the classes whose objects the heap holds, their fields, by program out of the tables of the Statement -/
def zr0 : String := "TableMachine"
def zf0 : u_T := fun k => match k with
  | 0 => ("TableMachine", "machine", "LTableMachine$Machine;", true)
  | 1 => ("TableMachine", "store", "LTableMachine$Store;", true)
  | 2 => ("TableMachine", "program", "LTableMachine$Program;", true)
  | 3 => ("TableMachine", "results", "LTableMachine$Results;", true)
  | 4 => ("TableMachine", "coming", "LTableMachine$Values;", true)
  | _ => ("TableMachine", "question", "LTableMachine$Question;", true)
def zt0 : Nat → FieldType := fun k => match k with
  | 0 => .object "TableMachine$Machine"
  | 1 => .object "TableMachine$Store"
  | 2 => .object "TableMachine$Program"
  | 3 => .object "TableMachine$Results"
  | 4 => .object "TableMachine$Values"
  | _ => .object "TableMachine$Question"
theorem zn0 : ∀ a, a < 6 → ∀ b, b < 6 → a ≠ b → (zf0 a).2.1 ≠ (zf0 b).2.1 := by decide +kernel
theorem zk0 : ∀ k, k < 6 → parseFieldDescriptor (zf0 k).2.2.1 = some (zt0 k) := by decide +kernel
def zr1 : String := "TableMachine$Machine"
def zf1 : u_T := fun k => match k with
  | 0 => ("TableMachine$Machine", "store", "LTableMachine$Store;", true)
  | 1 => ("TableMachine$Machine", "program", "LTableMachine$Program;", true)
  | 2 => ("TableMachine$Machine", "results", "LTableMachine$Results;", true)
  | 3 => ("TableMachine$Machine", "registers", "LTableMachine$Values;", true)
  | 4 => ("TableMachine$Machine", "cursors", "[LTableMachine$Cursor;", true)
  | _ => ("TableMachine$Machine", "outcome", "I", false)
def zt1 : Nat → FieldType := fun k => match k with
  | 0 => .object "TableMachine$Store"
  | 1 => .object "TableMachine$Program"
  | 2 => .object "TableMachine$Results"
  | 3 => .object "TableMachine$Values"
  | 4 => .array (.object "TableMachine$Cursor")
  | _ => .int
theorem zn1 : ∀ a, a < 6 → ∀ b, b < 6 → a ≠ b → (zf1 a).2.1 ≠ (zf1 b).2.1 := by decide +kernel
theorem zk1 : ∀ k, k < 6 → parseFieldDescriptor (zf1 k).2.2.1 = some (zt1 k) := by decide +kernel
def zr2 : String := "TableMachine$Store"
def zf2 : u_T := fun k => match k with
  | 0 => ("TableMachine$Store", "tables", "[LTableMachine$Table;", true)
  | 1 => ("TableMachine$Store", "tableCount", "I", false)
  | 2 => ("TableMachine$Store", "cells", "LTableMachine$Values;", true)
  | 3 => ("TableMachine$Store", "keys", "[J", true)
  | 4 => ("TableMachine$Store", "spare", "[I", true)
  | _ => ("TableMachine$Store", "spareCount", "I", false)
def zt2 : Nat → FieldType := fun k => match k with
  | 0 => .array (.object "TableMachine$Table")
  | 1 => .int
  | 2 => .object "TableMachine$Values"
  | 3 => .array .long
  | 4 => .array .int
  | _ => .int
theorem zn2 : ∀ a, a < 6 → ∀ b, b < 6 → a ≠ b → (zf2 a).2.1 ≠ (zf2 b).2.1 := by decide +kernel
theorem zk2 : ∀ k, k < 6 → parseFieldDescriptor (zf2 k).2.2.1 = some (zt2 k) := by decide +kernel
def zr3 : String := "TableMachine$Table"
def zf3 : u_T := fun k => match k with
  | 0 => ("TableMachine$Table", "columns", "I", false)
  | 1 => ("TableMachine$Table", "size", "I", false)
  | _ => ("TableMachine$Table", "slots", "[I", true)
def zt3 : Nat → FieldType := fun k => match k with
  | 0 => .int
  | 1 => .int
  | _ => .array .int
theorem zn3 : ∀ a, a < 3 → ∀ b, b < 3 → a ≠ b → (zf3 a).2.1 ≠ (zf3 b).2.1 := by decide +kernel
theorem zk3 : ∀ k, k < 3 → parseFieldDescriptor (zf3 k).2.2.1 = some (zt3 k) := by decide +kernel
def zr4 : String := "TableMachine$Values"
def zf4 : u_T := fun k => match k with
  | 0 => ("TableMachine$Values", "numbers", "[J", true)
  | _ => ("TableMachine$Values", "known", "[Z", true)
def zt4 : Nat → FieldType := fun k => match k with
  | 0 => .array .long
  | _ => .array .boolean
theorem zn4 : ∀ a, a < 2 → ∀ b, b < 2 → a ≠ b → (zf4 a).2.1 ≠ (zf4 b).2.1 := by decide +kernel
theorem zk4 : ∀ k, k < 2 → parseFieldDescriptor (zf4 k).2.2.1 = some (zt4 k) := by decide +kernel
def zr5 : String := "TableMachine$Cursor"
def zf5 : u_T := fun k => match k with
  | 0 => ("TableMachine$Cursor", "table", "I", false)
  | 1 => ("TableMachine$Cursor", "hasKey", "Z", false)
  | _ => ("TableMachine$Cursor", "key", "J", false)
def zt5 : Nat → FieldType := fun k => match k with
  | 0 => .int
  | 1 => .boolean
  | _ => .long
theorem zn5 : ∀ a, a < 3 → ∀ b, b < 3 → a ≠ b → (zf5 a).2.1 ≠ (zf5 b).2.1 := by decide +kernel
theorem zk5 : ∀ k, k < 3 → parseFieldDescriptor (zf5 k).2.2.1 = some (zt5 k) := by decide +kernel
def zr6 : String := "TableMachine$Program"
def zf6 : u_T := fun k => match k with
  | 0 => ("TableMachine$Program", "size", "I", false)
  | _ => ("TableMachine$Program", "words", "[I", true)
def zt6 : Nat → FieldType := fun k => match k with
  | 0 => .int
  | _ => .array .int
theorem zn6 : ∀ a, a < 2 → ∀ b, b < 2 → a ≠ b → (zf6 a).2.1 ≠ (zf6 b).2.1 := by decide +kernel
theorem zk6 : ∀ k, k < 2 → parseFieldDescriptor (zf6 k).2.2.1 = some (zt6 k) := by decide +kernel
def zr7 : String := "TableMachine$Results"
def zf7 : u_T := fun k => match k with
  | 0 => ("TableMachine$Results", "size", "I", false)
  | 1 => ("TableMachine$Results", "widths", "[I", true)
  | _ => ("TableMachine$Results", "cells", "LTableMachine$Values;", true)
def zt7 : Nat → FieldType := fun k => match k with
  | 0 => .int
  | 1 => .array .int
  | _ => .object "TableMachine$Values"
theorem zn7 : ∀ a, a < 3 → ∀ b, b < 3 → a ≠ b → (zf7 a).2.1 ≠ (zf7 b).2.1 := by decide +kernel
theorem zk7 : ∀ k, k < 3 → parseFieldDescriptor (zf7 k).2.2.1 = some (zt7 k) := by decide +kernel
def zr8 : String := "TableMachine$Question"
def zf8 : u_T := fun k => match k with
  | 0 => ("TableMachine$Question", "tables", "[I", true)
  | 1 => ("TableMachine$Question", "outputs", "I", false)
  | 2 => ("TableMachine$Question", "conditions", "I", false)
  | 3 => ("TableMachine$Question", "cursors", "I", false)
  | 4 => ("TableMachine$Question", "outputCursors", "[I", true)
  | 5 => ("TableMachine$Question", "outputColumns", "[I", true)
  | 6 => ("TableMachine$Question", "conditionCursors", "[I", true)
  | 7 => ("TableMachine$Question", "conditionColumns", "[I", true)
  | 8 => ("TableMachine$Question", "comparisons", "[I", true)
  | 9 => ("TableMachine$Question", "numbers", "[I", true)
  | 10 => ("TableMachine$Question", "joined", "Z", false)
  | 11 => ("TableMachine$Question", "firstJoined", "I", false)
  | _ => ("TableMachine$Question", "secondJoined", "I", false)
def zt8 : Nat → FieldType := fun k => match k with
  | 0 => .array .int
  | 1 => .int
  | 2 => .int
  | 3 => .int
  | 4 => .array .int
  | 5 => .array .int
  | 6 => .array .int
  | 7 => .array .int
  | 8 => .array .int
  | 9 => .array .int
  | 10 => .boolean
  | 11 => .int
  | _ => .int
theorem zn8 : ∀ a, a < 13 → ∀ b, b < 13 → a ≠ b → (zf8 a).2.1 ≠ (zf8 b).2.1 := by decide +kernel
theorem zk8 : ∀ k, k < 13 → parseFieldDescriptor (zf8 k).2.2.1 = some (zt8 k) := by decide +kernel
def zr9 : String := "TableMachineModel"
def zf9 : u_T := fun k => match k with
  | 0 => ("TableMachineModel", "thrown", "I", false)
  | 1 => ("TableMachineModel", "tables", "I", false)
  | 2 => ("TableMachineModel", "columns", "[I", true)
  | 3 => ("TableMachineModel", "rows", "I", false)
  | 4 => ("TableMachineModel", "owner", "[I", true)
  | 5 => ("TableMachineModel", "keys", "[J", true)
  | 6 => ("TableMachineModel", "values", "[J", true)
  | 7 => ("TableMachineModel", "has", "[Z", true)
  | 8 => ("TableMachineModel", "coming", "[J", true)
  | 9 => ("TableMachineModel", "comes", "[Z", true)
  | 10 => ("TableMachineModel", "size", "I", false)
  | 11 => ("TableMachineModel", "code", "[I", true)
  | 12 => ("TableMachineModel", "registers", "[J", true)
  | 13 => ("TableMachineModel", "full", "[Z", true)
  | 14 => ("TableMachineModel", "open", "[I", true)
  | 15 => ("TableMachineModel", "keyed", "[Z", true)
  | 16 => ("TableMachineModel", "at", "[J", true)
  | 17 => ("TableMachineModel", "outcome", "I", false)
  | 18 => ("TableMachineModel", "place", "I", false)
  | 19 => ("TableMachineModel", "results", "I", false)
  | 20 => ("TableMachineModel", "wide", "[I", true)
  | 21 => ("TableMachineModel", "told", "[J", true)
  | 22 => ("TableMachineModel", "given", "[Z", true)
  | 23 => ("TableMachineModel", "first", "I", false)
  | 24 => ("TableMachineModel", "second", "I", false)
  | 25 => ("TableMachineModel", "outputs", "I", false)
  | 26 => ("TableMachineModel", "output", "[I", true)
  | 27 => ("TableMachineModel", "conditions", "I", false)
  | 28 => ("TableMachineModel", "condition", "[I", true)
  | 29 => ("TableMachineModel", "joins", "Z", false)
  | 30 => ("TableMachineModel", "joinFirst", "I", false)
  | _ => ("TableMachineModel", "joinSecond", "I", false)
def zt9 : Nat → FieldType := fun k => match k with
  | 0 => .int
  | 1 => .int
  | 2 => .array .int
  | 3 => .int
  | 4 => .array .int
  | 5 => .array .long
  | 6 => .array .long
  | 7 => .array .boolean
  | 8 => .array .long
  | 9 => .array .boolean
  | 10 => .int
  | 11 => .array .int
  | 12 => .array .long
  | 13 => .array .boolean
  | 14 => .array .int
  | 15 => .array .boolean
  | 16 => .array .long
  | 17 => .int
  | 18 => .int
  | 19 => .int
  | 20 => .array .int
  | 21 => .array .long
  | 22 => .array .boolean
  | 23 => .int
  | 24 => .int
  | 25 => .int
  | 26 => .array .int
  | 27 => .int
  | 28 => .array .int
  | 29 => .boolean
  | 30 => .int
  | _ => .int
theorem zn9 : ∀ a, a < 32 → ∀ b, b < 32 → a ≠ b → (zf9 a).2.1 ≠ (zf9 b).2.1 := by decide +kernel
theorem zk9 : ∀ k, k < 32 → parseFieldDescriptor (zf9 k).2.2.1 = some (zt9 k) := by decide +kernel
abbrev zCl : List vw_C := [(zr0, zf0, 6), (zr1, zf1, 6), (zr2, zf2, 6), (zr3, zf3, 3), (zr4, zf4, 2), (zr5, zf5, 3), (zr6, zf6, 2), (zr7, zf7, 3), (zr8, zf8, 13), (zr9, zf9, 32)]
def zTab : String := "TableMachine$Table"
def zCur : String := "TableMachine$Cursor"
end
section
/-! statics of java.lang.Throwable, words of another kind, strings: what a throw needs, as it is kept over the run -/
def zLs (C n d : String) (A : Nat → Prop) (U : State) (H : Heap) : Prop := ∃ (c : ClassId) (k : Class) (i : Nat) (f : Field) (a : Nat) (cell : Cell), U.vm.findClass C = some c ∧ U.fieldFound? C n d = some (c, k, i, f) ∧ f.isStatic = true ∧ k.statics = some a ∧ H[a]? = some cell ∧ cell.vm.isStatics = true ∧ cell.cls = c ∧ f.slot < cell.slots.size ∧ k.staticTypes[f.slot]? = some f.type ∧ ¬ A a
theorem zLs_move {C n d : String} {A A1 : Nat → Prop} {u U : State} {H H1 : Heap} (hvm : u.vm.Alike U.vm) (hq : ∀ a : Nat, a < H.size → ¬ A a → H1[a]? = H[a]?) (hA : ∀ q, A1 q → A q) (h : zLs C n d A u H) : zLs C n d A1 U H1 := by
  obtain ⟨c, k, i, f, a, cell, h0, h1, h2, h3, h4, h5, h6, h7, h8, h9⟩ := h
  obtain ⟨k', hi', he⟩ := State.fieldFound?_setVm hvm h1
  exact ⟨c, k', i, f, a, cell, by rw [hvm.findClass]; exact h0, hi', h2, by rw [he]; exact h3, by rw [hq a (Array.getElem?_eq_some_iff.mp h4).1 h9]; exact h4, h5, h6, h7, by rw [he]; exact h8, fun z => h9 (hA a z)⟩
theorem zLs_word {C n d : String} {A : Nat → Prop} {s : State} {args : Array Value} (h : zLs C n d A s s.heap) : (Cond.laysStatic C n d).before args s = true := by
  obtain ⟨c, k, i, f, a, cell, h0, h1, h2, h3, h4, h5, h6, h7, h8, -⟩ := h
  simp [Cond.before, Cond.holds, Cond.value, h0, h1, h2, h3, h4, h5, h6, h7, h8]
theorem zZq_word {C n d : String} {A : Nat → Prop} {s : State} {args : Array Value} (h : va_Zq C n d A s s.heap) : (Cond.isRef (.static C n d)).before args s = true := by
  rcases h with h | ⟨t, h⟩
  · obtain ⟨cf, kf, fi, f, a, cell, h1, h2, h3, h4, h5, h6, h7, -⟩ := h
    simp [Cond.before, Cond.holds, Cond.value, Term.eval, State.fieldNamed?, h1, h2, h4, h5, h6, h7]
  · obtain ⟨cf, kf, fi, f, a, cell, h1, h2, h3, h4, h5, h6, h7, -⟩ := h
    simp [Cond.before, Cond.holds, Cond.value, Term.eval, State.fieldNamed?, h1, h2, h4, h5, h6, h7]
def zFw (w : Cond) : Bool := w.faceAtom && w.onTables
/-- the words that no first use changes, of the kind 'declares', 'castable' -/
def zWF : List Cond := tables_1.filter zFw
theorem zWF_move {u U : State} (hvm : u.vm.Alike U.vm) (h : ∀ w ∈ zWF, va_Nw w u) : ∀ w ∈ zWF, va_Nw w U := by
  intro w hw
  have h1 := (List.mem_filter.mp hw).2
  simp only [zFw, Bool.and_eq_true] at h1
  exact va_tabs h1.2 (u := u.setVm U.vm) rfl (Cond.faceAtom_setVm hvm w h1.1 (h w hw))
def zStr : List (String × Nat × String) := [("TableMachine", 49, "a table has 1 to 4 columns"), ("TableMachine", 62, "there are 3 tables"), ("TableMachine", 221, "there is no such table"), ("TableMachine", 87, "there are 90 rows"), ("TableMachine", 119, "there is no such key"), ("TableMachine", 226, "there is no such table or column"), ("TableMachine", 232, "there is no such row"), ("TableMachine", 146, "there is no such instruction"), ("TableMachine", 151, "there are 60 instructions"), ("TableMachine", 163, "there is no such instruction or part of it"), ("TableMachine", 170, "fuel is 0 to 4000"), ("TableMachine", 175, "an instruction names a table or a number that there is not"), ("TableMachine", 234, "there is no such row or value"), ("TableMachine", 215, "there is no question, or it has no outputs")]
def zTn2 : String := "java/lang/Throwable"
def zSt2 : String := "[Ljava/lang/StackTraceElement;"
def zLi2 : String := "Ljava/util/List;"
/-- an object of E is none of T -/
def zNc (E T : String) (U : State) : Prop := ∃ a b : ClassId, U.vm.findClass E = some a ∧ U.vm.findClass T = some b ∧ U.vm.assignable a b = false
theorem zNc.moved {E T : String} {u U : State} (hvm : u.vm.Alike U.vm) (h : zNc E T u) : zNc E T U := by
  obtain ⟨a, b, h1, h2, h3⟩ := h
  exact ⟨a, b, by rw [hvm.findClass]; exact h1, by rw [hvm.findClass]; exact h2, by rw [hvm.assignable]; exact h3⟩
theorem zNc.of {E T : String} {A : Array Value} {U : State} (h : (Cond.not (.castable E T)).before A U = true) : zNc E T U := by
  have hv := Cond.holds_not_iff.mp h
  cases h1 : U.vm.findClass E with
  | none => simp [Cond.value, h1] at hv
  | some a =>
    cases h2 : U.vm.findClass T with
    | none => simp [Cond.value, h1, h2] at hv
    | some b =>
      simp only [Cond.value, h1, h2] at hv
      exact ⟨a, b, h1, h2, Option.some.inj hv⟩
def zThb (l : Launch) (A : Nat → Prop) (U : State) (H : Heap) : Prop :=
  (l.stackTraces = false ∧ zNc "java/lang/IllegalStateException" "java/lang/IllegalArgumentException" U ∧ zNc "java/util/NoSuchElementException" "java/lang/IllegalArgumentException" U) ∧ (∀ w ∈ zWF, va_Nw w U) ∧ (∀ q ∈ zStr, ∃ a : Nat, vk_R q.1 q.2.1 q.2.2 a U) ∧
  va_Zq zTn2 "UNASSIGNED_STACK" zSt2 A U H ∧ va_Zq zTn2 "SUPPRESSED_SENTINEL" zLi2 A U H ∧ zLs zTn2 "UNASSIGNED_STACK" zSt2 A U H ∧ zLs zTn2 "SUPPRESSED_SENTINEL" zLi2 A U H
theorem zThb_same {l : Launch} {A : Nat → Prop} {U U' : State} {H : Heap} (hv : U.vm = U'.vm) (h : zThb l A U H) : zThb l A U' H := by
  obtain ⟨h0, h1, h2, h3, h4, h5, h6⟩ := h
  have ha : U.vm.Alike U'.vm := by rw [hv]; exact Vm.Alike.refl _
  exact ⟨⟨h0.1, h0.2.1.moved ha, h0.2.2.moved ha⟩, zWF_move ha h1, fun q hq => by obtain ⟨a, h⟩ := h2 q hq; exact ⟨a, vk_R.same hv.symm h⟩, va_Zq.moved ha h3, va_Zq.moved ha h4, zLs_move ha (fun _ _ _ => rfl) (fun _ z => z) h5, zLs_move ha (fun _ _ _ => rfl) (fun _ z => z) h6⟩
theorem zThb_move {l : Launch} {A A1 : Nat → Prop} {s U : State} {H : Heap} {locs : List Loc} (hW : s.WarmedH U.vm) (hA : ∀ q, A1 q → A q) (hS : va_S A s.heap H locs) (h : zThb l A s s.heap) : zThb l A1 U H := by
  obtain ⟨h0, h1, h2, h3, h4, h5, h6⟩ := h
  exact ⟨⟨h0.1, h0.2.1.moved hW.alike, h0.2.2.moved hW.alike⟩, zWF_move hW.alike h1, fun q hq => by obtain ⟨a, h⟩ := h2 q hq; exact ⟨a, vk_R.warm hW h⟩, va_Zq.narrow (va_Zq.moved hW.alike (va_Zq.kept h3 hS.2.1)) hA, va_Zq.narrow (va_Zq.moved hW.alike (va_Zq.kept h4 hS.2.1)) hA, zLs_move hW.alike hS.2.1 hA h5, zLs_move hW.alike hS.2.1 hA h6⟩
end
section
/-! A light judgement over the machine's: heaps as functions of small numbers, one row an instruction. -/
abbrev zX : Type := Launch × (Nat → ClassId) × (Nat → Nat → Nat) × (Nat → Nat) × (Nat → ClassId)
abbrev zM : Type := MethodName × ByteArray × Nat × Option FieldType
abbrev zH : Type := Nat → va_E
def zV (ad : Nat → Nat) (v : Value) : Value := match v with
  | .ref i => .ref (ad i)
  | v => v
def zA (ad : Nat → Nat) (a : vp_A) : vp_A := match a with
  | (n, .inr (.inr (.inr (.inr g)))) => (n, .inr (.inr (.inr (.inr fun i => (g i).map ad))))
  | x => x
def zE (ad : Nat → Nat) (ca : Nat → ClassId) (e : va_E) : va_E := match e with
  | .inl (t, x) => .inl (ca t, zA ad x)
  | .inr (c, fs) => .inr (c, fs.map (zV ad))
def zW (ad : Nat → Nat) (ca : Nat → ClassId) (h : zH) (n : Nat) : va_W := (List.range n).map fun i => (ad i, zE ad ca (h i))
theorem zV_cat (ad : Nat → Nat) (v : Value) : (zV ad v).category = v.category := by cases v <;> rfl
theorem zW_get {ad : Nat → Nat} {ca : Nat → ClassId} {h : zH} {n i : Nat} (hi : i < n) : (zW ad ca h n)[i]? = some (ad i, zE ad ca (h i)) := by
  simp [zW, List.getElem?_range hi]
theorem zW_inv {ad : Nat → Nat} {ca : Nat → ClassId} {h : zH} {n i : Nat} {q : Nat × va_E} (hq : (zW ad ca h n)[i]? = some q) : i < n ∧ q = (ad i, zE ad ca (h i)) := by
  have hl : i < (zW ad ca h n).length := (List.getElem?_eq_some_iff.mp hq).1
  have hi : i < n := by simpa [zW] using hl
  rw [zW_get hi] at hq
  exact ⟨hi, (Option.some.inj hq).symm⟩
theorem zW_set {ad : Nat → Nat} {ca : Nat → ClassId} {h : zH} {n i : Nat} {e : va_E} (hi : i < n) : (zW ad ca h n).set i (ad i, zE ad ca e) = zW ad ca (va_up h i e) n := by
  apply List.ext_getElem?
  intro j
  by_cases hj : j < n
  · by_cases hij : i = j
    · subst hij
      rw [List.getElem?_set_self (by simpa [zW] using hi), zW_get hi]
      simp [va_up]
    · rw [List.getElem?_set_ne hij, zW_get hj, zW_get hj]
      simp [va_up, Ne.symm hij]
  · rw [List.getElem?_eq_none (by simp [zW]; omega), List.getElem?_eq_none (by simp [zW]; omega)]
theorem zW_push {ad : Nat → Nat} {ca : Nat → ClassId} {h : zH} {n : Nat} {e : va_E} : zW ad ca h n ++ [(ad n, zE ad ca e)] = zW ad ca (va_up h n e) (n + 1) := by
  apply List.ext_getElem?
  intro j
  by_cases hj : j < n
  · rw [List.getElem?_append_left (by simpa [zW] using hj), zW_get hj, zW_get (by omega)]
    simp [va_up, Nat.ne_of_lt hj]
  · by_cases hij : j = n
    · subst hij
      rw [List.getElem?_append_right (by simp [zW]), zW_get (by omega)]
      simp [zW, va_up]
    · rw [List.getElem?_eq_none (by simp [zW]; omega), List.getElem?_eq_none (by simp [zW]; omega)]
/-- the words that hold at every state of the run -/
def zWA : List Cond := lw_tbl.filter goodWord
theorem zWA_good : ∀ w ∈ zWA, goodWord w = true := fun _ h => (List.mem_filter.mp h).2
theorem zWA_of {i : Nat} {w : Cond} (h : tables_1[i]? = some w) (hg : goodWord w = true) : w ∈ zWA := List.mem_filter.mpr ⟨List.mem_append_right _ (List.mem_of_getElem? h), hg⟩
theorem zWA_sel {i : Nat} {w : Cond} (h : (k2_sels lw_privs)[i]? = some w) (hg : goodWord w = true) : w ∈ zWA := List.mem_filter.mpr ⟨List.mem_append_left _ (List.mem_of_getElem? h), hg⟩
def zNest : List (String × Nat × MethodName) := [("TableMachine$Store", 41, ⟨"TableMachine$Table", "<init>", "()V"⟩), ("TableMachine$Machine", 20, ⟨"TableMachine$Program", "<init>", "()V"⟩), ("TableMachine$Machine", 27, ⟨"TableMachine$Results", "<init>", "()V"⟩), ("TableMachine$Machine", 51, ⟨"TableMachine$Cursor", "<init>", "()V"⟩), ("TableMachine", 42, ⟨"TableMachine$Question", "<init>", "()V"⟩), ("TableMachine$Store", 45, ⟨"TableMachine", "isIndex", "(II)Z"⟩), ("TableMachine$Question", 53, ⟨"TableMachine", "isIndex", "(II)Z"⟩), ("TableMachine$Op", 15, ⟨"TableMachine", "isIndex", "(II)Z"⟩), ("TableMachine$Kind", 9, ⟨"TableMachine", "isIndex", "(II)Z"⟩), ("TableMachine$Results", 28, ⟨"TableMachine", "isIndex", "(II)Z"⟩)]
def zKinds : List Int32 := [0, 0, 0, 1, 2, 0, 1, 3, 0, 1, 3, 0, 1, 4, 5, 1, 5, 0, 8, 5, 0, 5, 0, 0, 1, 3, 5, 5, 3, 5, 5, 3, 5, 5, 3, 5, 5, 3, 5, 5, 3, 5, 5, 3, 5, 5, 3, 0, 5, 3, 0, 5, 5, 5, 5, 7, 0, 3, 0, 0, 1, 3, 6, 1, 0, 0]
/-- what holds of the statics and the tables all the time; A: the cells that may change -/
def zS (X : zX) (A : Nat → Prop) (U : State) (H : Heap) : Prop :=
  (∀ q ∈ zNest, va_Nw (.methodLinkNest q.1 q.2.1 q.2.2 "TableMachine") U) ∧
  va_Z "TableMachine$Op" "KINDS" "[I" (.ref (X.2.2.2.1 900)) A U H ∧ va_T .int (X.2.2.2.1 900) 66 (fun j => .int (zKinds.getD j 0)) A U H ∧
  (∀ i, i < 200 → X.2.2.2.1 (i + 1) = X.2.2.2.1 i + 1) ∧ zThb X.1 A U H
theorem zS_same {X : zX} {A : Nat → Prop} {U U' : State} (hv : U.vm = U'.vm) (hh : U'.heap = U.heap) (h : zS X A U U.heap) : zS X A U' U'.heap := by
  obtain ⟨h1, h2, h3, h4, h5⟩ := h
  have ha : U.vm.Alike U'.vm := by rw [hv]; exact Vm.Alike.refl _
  rw [hh]
  exact ⟨fun q hq => va_Nw.same rfl hv (h1 q hq), va_Z.moved ha h2, va_T.moved ha h3, h4, zThb_same hv h5⟩
theorem zS_move {X : zX} {A A1 : Nat → Prop} {s U : State} {H : Heap} {locs : List Loc} (hW : s.WarmedH U.vm) (hA : ∀ q, A1 q → A q) (hS : va_S A s.heap H locs) (h : zS X A s s.heap) : zS X A1 U H := by
  obtain ⟨h1, h2, h3, h4, h5⟩ := h
  exact ⟨fun q hq => va_Nw.warmM hW (h1 q hq), va_Z.narrow (va_Z.moved hW.alike (va_Z.kept h2 hS.2.1)) hA, va_T.narrow (va_T.moved hW.alike (va_T.kept h3 hS.2.1)) hA, h4, zThb_move hW hA hS h5⟩
/-- the arrays' classes, by small numbers -/
def zT (ca : Nat → ClassId) : List (ClassId × FieldType) := [(ca 0, .int), (ca 1, .long), (ca 2, .boolean), (ca 3, .object zTab), (ca 4, .object zCur)]
def zws (M : zM) : List Cond := .code M.1 M.2.1 M.2.2.1 M.2.2.2 :: zWA
/-- the room of a method d calls high, that makes mc cells of ms slots -/
def zR (d mc ms : Nat) : Room := { frames := d + 3, cells := mc, slots := ms, locals := 33 * d }
/-- what holds from the start of a method to its end -/
def zB (X : zX) (M : zM) (p : Program) (s : State) (m : MethodId) (args : Array Value) (meth : Method) (c : Code) (A : Nat → Prop) : Prop :=
  p.tables.exec = Jvm.exec ∧ c.code = M.2.1 ∧ c.maxLocals = M.2.2.1 ∧ meth.sig.returnType = M.2.2.2 ∧ meth.locks = false ∧ (∀ w ∈ zWA, w.before args s = true) ∧ s.vm.findClass M.1.cls = some m.cls ∧ meth.name = M.1.name ∧
  ((M.1.cls ≠ "TableMachineLaw" → ∀ x ∈ c.exceptionTable.toList, False) ∧ s.methodNamed? M.1 = some m) ∧ va_K (X.2.1, X.2.2.1) zCl (zT X.2.2.2.2) s ∧ zS X A s s.heap ∧ (∀ q, s.heap.size ≤ q → A q)
section ZB
variable {X : zX} {M : zM} {p : Program} {s : State} {m : MethodId} {args : Array Value} {meth : Method} {c : Code} {A : Nat → Prop}
theorem zB.words (hB : zB X M p s m args meth c A) : ∀ w ∈ zWA, w.before args s = true := hB.2.2.2.2.2.1
theorem zB.word (hB : zB X M p s m args meth c A) {w : Cond} (h : w ∈ zWA) : w.before args s = true := hB.words w h
theorem zB.own (hB : zB X M p s m args meth c A) : s.vm.findClass M.1.cls = some m.cls := hB.2.2.2.2.2.2.1
theorem zB.mname (hB : zB X M p s m args meth c A) : meth.name = M.1.name := hB.2.2.2.2.2.2.2.1
theorem zB.noEx (hB : zB X M p s m args meth c A) (hM : M.1.cls ≠ "TableMachineLaw") : ∀ x ∈ c.exceptionTable.toList, False := hB.2.2.2.2.2.2.2.2.1.1 hM
theorem zB.named (hB : zB X M p s m args meth c A) : s.methodNamed? M.1 = some m := hB.2.2.2.2.2.2.2.2.1.2
theorem zB.kinds (hB : zB X M p s m args meth c A) : va_K (X.2.1, X.2.2.1) zCl (zT X.2.2.2.2) s := hB.2.2.2.2.2.2.2.2.2.1
theorem zB.stat (hB : zB X M p s m args meth c A) : zS X A s s.heap := hB.2.2.2.2.2.2.2.2.2.2.1
theorem zB.hA (hB : zB X M p s m args meth c A) : ∀ q, s.heap.size ≤ q → A q := hB.2.2.2.2.2.2.2.2.2.2.2
end ZB
/-- the heap as it is now -/
def zD (X : zX) (A : Nat → Prop) (s : State) (fr : Bool) (k : Nat) (h : zH) (n : Nat) (H : Heap) (locs : List Loc) : Prop :=
  va_P (X.2.1, X.2.2.1) zCl (zW X.2.2.2.1 X.2.2.2.2 h n) H ∧ va_D A (zW X.2.2.2.1 X.2.2.2.2 h n) ∧ va_S A s.heap H locs ∧ (fr = true → X.2.2.2.1 n ≤ H.size ∧ X.2.2.2.1 n = s.heap.size + k)
/-- how it ends -/
def zF (X : zX) (A : Nat → Prop) (fr : Bool) (h : zH) (n : Nat) (st t : State) : Prop :=
  va_P (X.2.1, X.2.2.1) zCl (zW X.2.2.2.1 X.2.2.2.2 h n) t.heap ∧ va_D A (zW X.2.2.2.1 X.2.2.2.2 h n) ∧ va_F A st t ∧ (fr = true → X.2.2.2.1 n ≤ t.heap.size)
def zQ (X : zX) (A : Nat → Prop) (fr : Bool) (v : Option Value) (h : zH) (n : Nat) : Array Value → State → Outcome → State → Prop := fun _ st oc t => oc = .returned (v.map (zV X.2.2.2.1)) ∧ zF X A fr h n st t
abbrev zQT : Type := (Nat → Prop) → List Frame → Array Value → State → State → Prop
/-- the method returns v, with the heap h -/
def zRet (X : zX) (mc ms : Nat) (fr : Bool) (v : Option Value) (h : zH) (n : Nat) : zQT := fun A below args s => MQ below (zQ X A fr v h n) args s mc ms A
def zJ (X : zX) (R : Room) (M : zM) (Q : zQT) (fr : Bool) (k j : Nat) (h : zH) (n : Nat) (pc : Nat) (lv : List (Nat × Value)) (st : List Value) : Prop :=
  ∀ (p : Program) (e : Env) (s : State) (m : MethodId) (args : Array Value) (below : List Frame) (meth : Method) (c : Code) (A : Nat → Prop) (H : Heap) (locs : List Loc) (ls : Array Slot),
    zB X M p s m args meth c A → zD X A s fr k h n H locs → lv_has ls M.2.2.1 (lv.map fun q => (q.1, zV X.2.2.2.1 q.2)) →
    W p X.1 e R s m args below meth c H locs k j (Q A below args s) (F0 m pc ls (st.map (zV X.2.2.2.1)))
def zPc (X : zX) (fr : Bool) (av : List Value) (h : zH) (n sz : Nat) : Array Value → State → Prop := va_Pc (av.map (zV X.2.2.2.1)) (fun U => U.heap.size = sz ∧ va_P (X.2.1, X.2.2.1) zCl (zW X.2.2.2.1 X.2.2.2.2 h n) U.heap ∧ va_K (X.2.1, X.2.2.1) zCl (zT X.2.2.2.2) U ∧ va_D (fun _ => True) (zW X.2.2.2.1 X.2.2.2.2 h n) ∧ zS X (va_A (zW X.2.2.2.1 X.2.2.2.2 h n) sz) U U.heap ∧ (fr = true → sz = X.2.2.2.1 n))
/-- a contract: from the heap h, called with av, M returns v and leaves the heap hf -/
def zC (X : zX) (d : Nat) (M : zM) (mc ms : Nat) (fr : Bool) (av : List Value) (h : zH) (n : Nat) (v : Option Value) (hf : zH) (nf : Nat) : Prop :=
  ∀ sz : Nat, Met X.1 M.1 (zws M) (zR d mc ms) (zPc X fr av h n sz) (zQ X (va_A (zW X.2.2.2.1 X.2.2.2.2 h n) sz) fr v hf nf) mc ms (va_A (zW X.2.2.2.1 X.2.2.2.2 h n) sz)
/-! locals -/
def zst (i : Nat) (v : Value) (lv : List (Nat × Value)) : List (Nat × Value) :=
  (lv.filter fun q => !(q.1 == i) && !(q.1 + 1 == i && q.2.category == 2) && !(v.category == 2 && q.1 == i + 1)) ++ [(i, v)]
theorem zlv_map (ad : Nat → Nat) : ∀ (av : List Value) (i : Nat), lv_args i (av.map (zV ad)) = (lv_args i av).map fun q => (q.1, zV ad q.2)
  | [], _ => rfl
  | v :: vs, i => by
    show (i, zV ad v) :: lv_args (if (zV ad v).category = 2 then i + 2 else i + 1) (vs.map (zV ad)) = (i, zV ad v) :: (lv_args (if v.category = 2 then i + 2 else i + 1) vs).map _
    rw [zV_cat, zlv_map ad vs]
theorem zl_mem : ∀ {lv : List (Nat × Value)} {i : Nat} {v : Value}, lv.lookup i = some v → (i, v) ∈ lv
  | [], _, _, h => by simp [List.lookup] at h
  | (a, b) :: r, i, v, h => by
    by_cases hi : i = a
    · subst hi
      rw [List.lookup_cons_self] at h
      cases h
      exact List.mem_cons_self
    · have : (i == a) = false := by simpa using hi
      simp only [List.lookup, this] at h
      exact List.mem_cons_of_mem _ (zl_mem h)
theorem zl_at {ad : Nat → Nat} {ls : Array Slot} {nL : Nat} {lv : List (Nat × Value)} (hL : lv_has ls nL (lv.map fun q => (q.1, zV ad q.2))) {i : Nat} {v : Value} (h : lv.lookup i = some v) : ls[i]? = some (.val (zV ad v)) :=
  hL.2.2 (i, zV ad v) (List.mem_map.mpr ⟨(i, v), zl_mem h, rfl⟩)
theorem zl_ix {ad : Nat → Nat} {lv : List (Nat × Value)} {i : Nat} {v : Value} (h : lv.lookup i = some v) : ∃ k0 : Nat, (lv.map fun q => (q.1, zV ad q.2))[k0]? = some (i, zV ad v) :=
  List.getElem?_of_mem (List.mem_map.mpr ⟨(i, v), zl_mem h, rfl⟩)
theorem zl_st1 {ad : Nat → Nat} {ls : Array Slot} {nL i : Nat} {v : Value} {lv : List (Nat × Value)} (hL : lv_has ls nL ((i, zV ad v) :: (lv.map fun q => (q.1, zV ad q.2)).filter (fun q => !(q.1 == i) && !(q.1 + 1 == i && q.2.category == 2)))) : lv_has ls nL ((zst i v lv).map fun q => (q.1, zV ad q.2)) := by
  refine ⟨hL.1, hL.2.1, fun q hq => hL.2.2 q ?_⟩
  obtain ⟨q0, hq0, rfl⟩ := List.mem_map.mp hq
  rcases List.mem_append.mp hq0 with h | h
  · obtain ⟨h1, h2⟩ := List.mem_filter.mp h
    refine List.mem_cons_of_mem _ (List.mem_filter.mpr ⟨List.mem_map.mpr ⟨q0, h1, rfl⟩, ?_⟩)
    simp only [zV_cat]
    simp only [Bool.and_eq_true] at h2 ⊢
    exact h2.1
  · rw [List.mem_singleton.mp h]
    exact List.mem_cons_self
theorem zl_st2 {ad : Nat → Nat} {ls : Array Slot} {nL i : Nat} {v : Value} {lv : List (Nat × Value)} (hc : v.category = 2) (hL : lv_has ls nL ((i, zV ad v) :: (lv.map fun q => (q.1, zV ad q.2)).filter (fun q => !(q.1 == i) && (!(q.1 == i + 1) && !(q.1 + 1 == i && q.2.category == 2))))) : lv_has ls nL ((zst i v lv).map fun q => (q.1, zV ad q.2)) := by
  refine ⟨hL.1, hL.2.1, fun q hq => hL.2.2 q ?_⟩
  obtain ⟨q0, hq0, rfl⟩ := List.mem_map.mp hq
  rcases List.mem_append.mp hq0 with h | h
  · obtain ⟨h1, h2⟩ := List.mem_filter.mp h
    refine List.mem_cons_of_mem _ (List.mem_filter.mpr ⟨List.mem_map.mpr ⟨q0, h1, rfl⟩, ?_⟩)
    simp only [zV_cat]
    simp only [Bool.and_eq_true, hc] at h2 ⊢
    exact ⟨h2.1.1, by simpa using h2.2, h2.1.2⟩
  · rw [List.mem_singleton.mp h]
    exact List.mem_cons_self
/-! an index in range -/
def zin (i : Int32) (t len : Nat) : Prop := i = nI t ∧ t < len ∧ len < 2 ^ 31
theorem zin.cl {i : Int32} {t len : Nat} (h : zin i t len) : i.toNatClampNeg = t := by
  rw [h.1, nI_clamp (Nat.lt_trans h.2.1 h.2.2)]
theorem zin.vp {i : Int32} {t len : Nat} (h : zin i t len) : vp_in i len := by
  rw [h.1]; exact vp_in_nI h.2.1 h.2.2
/-! the heap behind a write -/
theorem zS_self {A : Nat → Prop} {H0 H : Heap} {locs : List Loc} (h : va_S A H0 H locs) : va_S A H H locs := ⟨Nat.le_refl _, fun _ _ _ => rfl, h.2.2⟩
theorem zS_tr {A : Nat → Prop} {H0 H H1 : Heap} {locs locs1 : List Loc} (h : va_S A H0 H locs) (h1 : va_S A H H1 locs1) : va_S A H0 H1 locs1 :=
  ⟨Nat.le_trans h.1 h1.1, fun q hq hA => (h1.2.1 q (Nat.lt_of_lt_of_le hq h.1) hA).trans (h.2.1 q hq hA), h1.2.2⟩
theorem zD_put {X : zX} {A : Nat → Prop} {s : State} {fr : Bool} {k : Nat} {h : zH} {n a : Nat} {H H1 : Heap} {locs locs1 : List Loc} {e : va_E} (ha : a < n) (hDD : zD X A s fr k h n H locs)
    (hP : va_P (X.2.1, X.2.2.1) zCl ((zW X.2.2.2.1 X.2.2.2.2 h n).set a (X.2.2.2.1 a, zE X.2.2.2.1 X.2.2.2.2 e)) H1) (hD : va_D A ((zW X.2.2.2.1 X.2.2.2.2 h n).set a (X.2.2.2.1 a, zE X.2.2.2.1 X.2.2.2.2 e))) (hS : va_S A H H1 locs1) : zD X A s fr k (va_up h a e) n H1 locs1 := by
  rw [zW_set ha] at hP hD
  exact ⟨hP, hD, zS_tr hDD.2.2.1 hS, fun hf => ⟨Nat.le_trans (hDD.2.2.2 hf).1 hS.1, (hDD.2.2.2 hf).2⟩⟩
theorem zA_len (ad : Nat → Nat) (x : vp_A) : (zA ad x).1 = x.1 := by
  obtain ⟨n, f | f | f | f | f⟩ := x <;> rfl
/-- a field that an instruction names: its class and place -/
def zFd (own : String) (ix ci kf : Nat) : Prop := ∃ (C : String) (T : u_T) (N : Nat), zCl[ci]? = some (C, T, N) ∧ kf < N ∧ (∀ w ∈ u_ws C T N, w ∈ zWA) ∧ Cond.fieldLink own ix (T kf).1 (T kf).2.1 (T kf).2.2.1 ∈ zWA
def zFp (ci kf : Nat) (ty : FieldType) (fin : Bool) : Prop := ∀ (C : String) (T : u_T) (N : Nat), zCl[ci]? = some (C, T, N) → ∃ ty0 : Nat → FieldType, (∀ k, k < N → parseFieldDescriptor (T k).2.2.1 = some (ty0 k)) ∧ (∀ a, a < N → ∀ b, b < N → a ≠ b → (T a).2.1 ≠ (T b).2.1) ∧ (T kf).2.2.2 = fin ∧ parseFieldDescriptor (T kf).2.2.1 = some ty
end
section
section ZR
variable {X : zX} {R : Room} {M : zM} {Q : zQT} {fr : Bool} {k j : Nat} {h : zH} {n pc : Nat} {lv : List (Nat × Value)} {st : List Value}
theorem z_iconst {i : Int} {v : Int32} (hd : decode M.2.1 pc = .ok ((.iconst i), 1)) (hv : Int32.ofInt i = v) (kk : zJ X R M Q fr k j h n (pc + 1) lv (.int v :: st)) : zJ X R M Q fr k j h n pc lv (st) := by
  intro p e s m args below meth c A H locs ls hB hDD hL
  exact lv_iconst hB.1 hB.2.1 hd hv (kk p e s m args below meth c A H locs ls hB hDD hL)
theorem z_bipush {i : Int} {v : Int32} (hd : decode M.2.1 pc = .ok ((.bipush i), 2)) (hv : (Int8.ofInt i).toInt32 = v) (kk : zJ X R M Q fr k j h n (pc + 2) lv (.int v :: st)) : zJ X R M Q fr k j h n pc lv (st) := by
  intro p e s m args below meth c A H locs ls hB hDD hL
  exact lv_bipush hB.1 hB.2.1 hd hv (kk p e s m args below meth c A H locs ls hB hDD hL)
theorem z_sipush {i : Int} {v : Int32} (hd : decode M.2.1 pc = .ok ((.sipush i), 3)) (hv : (Int16.ofInt i).toInt32 = v) (kk : zJ X R M Q fr k j h n (pc + 3) lv (.int v :: st)) : zJ X R M Q fr k j h n pc lv (st) := by
  intro p e s m args below meth c A H locs ls hB hDD hL
  exact lv_sipush hB.1 hB.2.1 hd hv (kk p e s m args below meth c A H locs ls hB hDD hL)
theorem z_lconst {i : Fin 2} {v : Int64} (hd : decode M.2.1 pc = .ok ((.lconst i), 1)) (hv : Int64.ofNat (i : Nat) = v) (kk : zJ X R M Q fr k j h n (pc + 1) lv (.long v :: st)) : zJ X R M Q fr k j h n pc lv (st) := by
  intro p e s m args below meth c A H locs ls hB hDD hL
  exact lv_lconst hB.1 hB.2.1 hd hv (kk p e s m args below meth c A H locs ls hB hDD hL)
theorem z_iload_n {i : Fin 4} {x : Int32} (hd : decode M.2.1 pc = .ok (.iload_n i, 1)) (hl : lv.lookup (i : Nat) = some (.int x)) (kk : zJ X R M Q fr k j h n (pc + 1) lv (.int x :: st)) : zJ X R M Q fr k j h n pc lv st := by
  intro p e s m args below meth c A H locs ls hB hDD hL
  exact lv_iload_n hB.1 hB.2.1 hd rfl (zl_at hL hl) (kk p e s m args below meth c A H locs ls hB hDD hL)
theorem z_iload {i : Nat} {x : Int32} (hd : decode M.2.1 pc = .ok (.iload i, 2)) (hl : lv.lookup i = some (.int x)) (kk : zJ X R M Q fr k j h n (pc + 2) lv (.int x :: st)) : zJ X R M Q fr k j h n pc lv st := by
  intro p e s m args below meth c A H locs ls hB hDD hL
  exact lv_iload hB.1 hB.2.1 hd (zl_at hL hl) (kk p e s m args below meth c A H locs ls hB hDD hL)
theorem z_istore_n {i : Fin 4} {x : Int32} {lv' : List (Nat × Value)} (hd : decode M.2.1 pc = .ok (.istore_n i, 1)) (hi : (i : Nat) < M.2.2.1) (hl : zst i (.int x) lv = lv') (kk : zJ X R M Q fr k j h n (pc + 1) lv' st) : zJ X R M Q fr k j h n pc lv (.int x :: st) := by
  intro p e s m args below meth c A H locs ls hB hDD hL
  subst hl
  exact lv_istore_n hB.1 hB.2.1 hd rfl hL hi rfl (fun ls' hL' => kk p e s m args below meth c A H locs ls' hB hDD (zl_st1 (v := .int x) hL'))
theorem z_istore {i : Nat} {x : Int32} {lv' : List (Nat × Value)} (hd : decode M.2.1 pc = .ok (.istore i, 2)) (hi : (i : Nat) < M.2.2.1) (hl : zst i (.int x) lv = lv') (kk : zJ X R M Q fr k j h n (pc + 2) lv' st) : zJ X R M Q fr k j h n pc lv (.int x :: st) := by
  intro p e s m args below meth c A H locs ls hB hDD hL
  subst hl
  exact lv_istore hB.1 hB.2.1 hd hL hi rfl (fun ls' hL' => kk p e s m args below meth c A H locs ls' hB hDD (zl_st1 (v := .int x) hL'))
theorem z_lload_n {i : Fin 4} {x : Int64} (hd : decode M.2.1 pc = .ok (.lload_n i, 1)) (hl : lv.lookup (i : Nat) = some (.long x)) (kk : zJ X R M Q fr k j h n (pc + 1) lv (.long x :: st)) : zJ X R M Q fr k j h n pc lv st := by
  intro p e s m args below meth c A H locs ls hB hDD hL
  exact lv_lload_n hB.1 hB.2.1 hd rfl (zl_at hL hl) (kk p e s m args below meth c A H locs ls hB hDD hL)
theorem z_lload {i : Nat} {x : Int64} (hd : decode M.2.1 pc = .ok (.lload i, 2)) (hl : lv.lookup i = some (.long x)) (kk : zJ X R M Q fr k j h n (pc + 2) lv (.long x :: st)) : zJ X R M Q fr k j h n pc lv st := by
  intro p e s m args below meth c A H locs ls hB hDD hL
  exact lv_lload hB.1 hB.2.1 hd (zl_at hL hl) (kk p e s m args below meth c A H locs ls hB hDD hL)
theorem z_lstore_n {i : Fin 4} {x : Int64} {lv' : List (Nat × Value)} (hd : decode M.2.1 pc = .ok (.lstore_n i, 1)) (hi : (i : Nat) + 1 < M.2.2.1) (hl : zst i (.long x) lv = lv') (kk : zJ X R M Q fr k j h n (pc + 1) lv' st) : zJ X R M Q fr k j h n pc lv (.long x :: st) := by
  intro p e s m args below meth c A H locs ls hB hDD hL
  subst hl
  exact lv_lstore_n hB.1 hB.2.1 hd rfl hL hi rfl (fun ls' hL' => kk p e s m args below meth c A H locs ls' hB hDD (zl_st2 (v := .long x) rfl hL'))
theorem z_lstore {i : Nat} {x : Int64} {lv' : List (Nat × Value)} (hd : decode M.2.1 pc = .ok (.lstore i, 2)) (hi : (i : Nat) + 1 < M.2.2.1) (hl : zst i (.long x) lv = lv') (kk : zJ X R M Q fr k j h n (pc + 2) lv' st) : zJ X R M Q fr k j h n pc lv (.long x :: st) := by
  intro p e s m args below meth c A H locs ls hB hDD hL
  subst hl
  exact lv_lstore hB.1 hB.2.1 hd hL hi rfl (fun ls' hL' => kk p e s m args below meth c A H locs ls' hB hDD (zl_st2 (v := .long x) rfl hL'))
theorem z_aload_n {i : Fin 4} {x : Nat} (hd : decode M.2.1 pc = .ok (.aload_n i, 1)) (hl : lv.lookup (i : Nat) = some (.ref x)) (kk : zJ X R M Q fr k j h n (pc + 1) lv (.ref x :: st)) : zJ X R M Q fr k j h n pc lv st := by
  intro p e s m args below meth c A H locs ls hB hDD hL
  exact lv_aload_n hB.1 hB.2.1 hd rfl (zl_at hL hl) (kk p e s m args below meth c A H locs ls hB hDD hL)
theorem z_aload {i : Nat} {x : Nat} (hd : decode M.2.1 pc = .ok (.aload i, 2)) (hl : lv.lookup i = some (.ref x)) (kk : zJ X R M Q fr k j h n (pc + 2) lv (.ref x :: st)) : zJ X R M Q fr k j h n pc lv st := by
  intro p e s m args below meth c A H locs ls hB hDD hL
  exact lv_aload hB.1 hB.2.1 hd (zl_at hL hl) (kk p e s m args below meth c A H locs ls hB hDD hL)
theorem z_astore_n {i : Fin 4} {x : Nat} {lv' : List (Nat × Value)} (hd : decode M.2.1 pc = .ok (.astore_n i, 1)) (hi : (i : Nat) < M.2.2.1) (hl : zst i (.ref x) lv = lv') (kk : zJ X R M Q fr k j h n (pc + 1) lv' st) : zJ X R M Q fr k j h n pc lv (.ref x :: st) := by
  intro p e s m args below meth c A H locs ls hB hDD hL
  subst hl
  exact lv_astore_n hB.1 hB.2.1 hd rfl hL hi rfl (fun ls' hL' => kk p e s m args below meth c A H locs ls' hB hDD (zl_st1 (v := .ref x) hL'))
theorem z_astore {i : Nat} {x : Nat} {lv' : List (Nat × Value)} (hd : decode M.2.1 pc = .ok (.astore i, 2)) (hi : (i : Nat) < M.2.2.1) (hl : zst i (.ref x) lv = lv') (kk : zJ X R M Q fr k j h n (pc + 2) lv' st) : zJ X R M Q fr k j h n pc lv (.ref x :: st) := by
  intro p e s m args below meth c A H locs ls hB hDD hL
  subst hl
  exact lv_astore hB.1 hB.2.1 hd hL hi rfl (fun ls' hL' => kk p e s m args below meth c A H locs ls' hB hDD (zl_st1 (v := .ref x) hL'))
theorem z_iinc {i : Nat} {z : Int} {x v : Int32} {lv' : List (Nat × Value)} (hd : decode M.2.1 pc = .ok (.iinc i z, 3)) (hi : i < M.2.2.1) (hx : lv.lookup i = some (.int x)) (hv : x + Int32.ofInt z = v) (hl : zst i (.int v) lv = lv') (kk : zJ X R M Q fr k j h n (pc + 3) lv' st) : zJ X R M Q fr k j h n pc lv st := by
  intro p e s m args below meth c A H locs ls hB hDD hL
  subst hl
  obtain ⟨k0, hk0⟩ := zl_ix hx
  exact lv_iinc hB.1 hB.2.1 hd hL (k := k0) hk0 hv hi rfl (fun ls' hL' => kk p e s m args below meth c A H locs ls' hB hDD (zl_st1 (v := .int v) hL'))
theorem z_iadd {x y : Int32} (hd : decode M.2.1 pc = .ok (.iadd, 1)) (kk : zJ X R M Q fr k j h n (pc + 1) lv (.int (x + y) :: st)) : zJ X R M Q fr k j h n pc lv (.int y :: .int x :: st) := by
  intro p e s m args below meth c A H locs ls hB hDD hL
  exact lv_iadd hB.1 hB.2.1 hd  (kk p e s m args below meth c A H locs ls hB hDD hL)
theorem z_isub {x y : Int32} (hd : decode M.2.1 pc = .ok (.isub, 1)) (kk : zJ X R M Q fr k j h n (pc + 1) lv (.int (x - y) :: st)) : zJ X R M Q fr k j h n pc lv (.int y :: .int x :: st) := by
  intro p e s m args below meth c A H locs ls hB hDD hL
  exact lv_isub hB.1 hB.2.1 hd  (kk p e s m args below meth c A H locs ls hB hDD hL)
theorem z_imul {x y : Int32} (hd : decode M.2.1 pc = .ok (.imul, 1)) (kk : zJ X R M Q fr k j h n (pc + 1) lv (.int (x * y) :: st)) : zJ X R M Q fr k j h n pc lv (.int y :: .int x :: st) := by
  intro p e s m args below meth c A H locs ls hB hDD hL
  exact lv_imul hB.1 hB.2.1 hd  (kk p e s m args below meth c A H locs ls hB hDD hL)
theorem z_iand {x y : Int32} (hd : decode M.2.1 pc = .ok (.iand, 1)) (kk : zJ X R M Q fr k j h n (pc + 1) lv (.int (x &&& y) :: st)) : zJ X R M Q fr k j h n pc lv (.int y :: .int x :: st) := by
  intro p e s m args below meth c A H locs ls hB hDD hL
  exact lv_iand hB.1 hB.2.1 hd  (kk p e s m args below meth c A H locs ls hB hDD hL)
theorem z_ladd {x y : Int64} (hd : decode M.2.1 pc = .ok (.ladd, 1)) (kk : zJ X R M Q fr k j h n (pc + 1) lv (.long (x + y) :: st)) : zJ X R M Q fr k j h n pc lv (.long y :: .long x :: st) := by
  intro p e s m args below meth c A H locs ls hB hDD hL
  exact lv_ladd hB.1 hB.2.1 hd  (kk p e s m args below meth c A H locs ls hB hDD hL)
theorem z_land {x y : Int64} (hd : decode M.2.1 pc = .ok (.land, 1)) (kk : zJ X R M Q fr k j h n (pc + 1) lv (.long (x &&& y) :: st)) : zJ X R M Q fr k j h n pc lv (.long y :: .long x :: st) := by
  intro p e s m args below meth c A H locs ls hB hDD hL
  exact lv_land hB.1 hB.2.1 hd  (kk p e s m args below meth c A H locs ls hB hDD hL)
theorem z_lor {x y : Int64} (hd : decode M.2.1 pc = .ok (.lor, 1)) (kk : zJ X R M Q fr k j h n (pc + 1) lv (.long (x ||| y) :: st)) : zJ X R M Q fr k j h n pc lv (.long y :: .long x :: st) := by
  intro p e s m args below meth c A H locs ls hB hDD hL
  exact lv_lor hB.1 hB.2.1 hd  (kk p e s m args below meth c A H locs ls hB hDD hL)
theorem z_idiv {x y : Int32} (hd : decode M.2.1 pc = .ok (.idiv, 1)) (hne : ¬ y = 0) (kk : zJ X R M Q fr k j h n (pc + 1) lv (.int (x / y) :: st)) : zJ X R M Q fr k j h n pc lv (.int y :: .int x :: st) := by
  intro p e s m args below meth c A H locs ls hB hDD hL
  exact lv_idiv hB.1 hB.2.1 hd hne (kk p e s m args below meth c A H locs ls hB hDD hL)
theorem z_i2l {x : Int32} (hd : decode M.2.1 pc = .ok (.i2l, 1)) (kk : zJ X R M Q fr k j h n (pc + 1) lv (.long x.toInt64 :: st)) : zJ X R M Q fr k j h n pc lv (.int x :: st) := by
  intro p e s m args below meth c A H locs ls hB hDD hL
  exact lv_i2l hB.1 hB.2.1 hd rfl (kk p e s m args below meth c A H locs ls hB hDD hL)
theorem z_lshl {x : Int64} {y : Int32} (hd : decode M.2.1 pc = .ok (.lshl, 1)) (kk : zJ X R M Q fr k j h n (pc + 1) lv (.long (x <<< (y.toInt64 &&& 63)) :: st)) : zJ X R M Q fr k j h n pc lv (.int y :: .long x :: st) := by
  intro p e s m args below meth c A H locs ls hB hDD hL
  exact lv_lshl hB.1 hB.2.1 hd rfl (kk p e s m args below meth c A H locs ls hB hDD hL)
theorem z_lcmp {x y : Int64} (hd : decode M.2.1 pc = .ok (.lcmp, 1)) (kk : zJ X R M Q fr k j h n (pc + 1) lv (.int (lg_cmp x y) :: st)) : zJ X R M Q fr k j h n pc lv (.long y :: .long x :: st) := by
  intro p e s m args below meth c A H locs ls hB hDD hL
  exact W.lcmp hB.1 hB.2.1 hd  (kk p e s m args below meth c A H locs ls hB hDD hL)
theorem z_dup {v : Value} (hd : decode M.2.1 pc = .ok (.dup, 1)) (hc : v.category = 1) (kk : zJ X R M Q fr k j h n (pc + 1) lv (v :: v :: st)) : zJ X R M Q fr k j h n pc lv (v :: st) := by
  intro p e s m args below meth c A H locs ls hB hDD hL
  exact lv_dup hB.1 hB.2.1 hd ((zV_cat _ _).trans hc) (kk p e s m args below meth c A H locs ls hB hDD hL)
theorem z_pop {v : Value} (hd : decode M.2.1 pc = .ok (.pop, 1)) (hc : v.category = 1) (kk : zJ X R M Q fr k j h n (pc + 1) lv (st)) : zJ X R M Q fr k j h n pc lv (v :: st) := by
  intro p e s m args below meth c A H locs ls hB hDD hL
  exact lv_pop hB.1 hB.2.1 hd ((zV_cat _ _).trans hc) (kk p e s m args below meth c A H locs ls hB hDD hL)
theorem z_dup_x1 {v w : Value} (hd : decode M.2.1 pc = .ok (.dup_x1, 1)) (hc : v.category = 1) (hc2 : w.category = 1) (kk : zJ X R M Q fr k j h n (pc + 1) lv (v :: w :: v :: st)) : zJ X R M Q fr k j h n pc lv (v :: w :: st) := by
  intro p e s m args below meth c A H locs ls hB hDD hL
  exact lv_dup_x1 hB.1 hB.2.1 hd ((zV_cat _ _).trans hc) ((zV_cat _ _).trans hc2) (kk p e s m args below meth c A H locs ls hB hDD hL)
theorem z_dup2 {v w : Value} (hd : decode M.2.1 pc = .ok (.dup2, 1)) (hc : v.category = 1) (hc2 : w.category = 1) (kk : zJ X R M Q fr k j h n (pc + 1) lv (v :: w :: v :: w :: st)) : zJ X R M Q fr k j h n pc lv (v :: w :: st) := by
  intro p e s m args below meth c A H locs ls hB hDD hL
  exact lv_dup2_11 hB.1 hB.2.1 hd ((zV_cat _ _).trans hc) ((zV_cat _ _).trans hc2) (kk p e s m args below meth c A H locs ls hB hDD hL)
theorem z_if_eq {x : Int32} {off : Int} (hd : decode M.2.1 pc = .ok (.ifCond .eq off, 3)) (tgt : Nat) (ht : (pc : Int) + off = (tgt : Int)) (kt : x = 0 → zJ X R M Q fr k j h n tgt lv st) (kf : ¬ x = 0 → zJ X R M Q fr k j h n (pc + 3) lv st) : zJ X R M Q fr k j h n pc lv (.int x :: st) := by
  intro p e s m args below meth c A H locs ls hB hDD hL
  exact lv_if_eq hB.1 hB.2.1 hd ht (fun hh => kt hh p e s m args below meth c A H locs ls hB hDD hL) (fun hh => kf hh p e s m args below meth c A H locs ls hB hDD hL)
theorem z_icmp_eq {x y : Int32} {off : Int} (hd : decode M.2.1 pc = .ok (.if_icmp .eq off, 3)) (tgt : Nat) (ht : (pc : Int) + off = (tgt : Int)) (kt : x = y → zJ X R M Q fr k j h n tgt lv st) (kf : ¬ x = y → zJ X R M Q fr k j h n (pc + 3) lv st) : zJ X R M Q fr k j h n pc lv (.int y :: .int x :: st) := by
  intro p e s m args below meth c A H locs ls hB hDD hL
  exact lv_icmp_eq hB.1 hB.2.1 hd ht (fun hh => kt hh p e s m args below meth c A H locs ls hB hDD hL) (fun hh => kf hh p e s m args below meth c A H locs ls hB hDD hL)
theorem z_if_ne {x : Int32} {off : Int} (hd : decode M.2.1 pc = .ok (.ifCond .ne off, 3)) (tgt : Nat) (ht : (pc : Int) + off = (tgt : Int)) (kt : ¬ x = 0 → zJ X R M Q fr k j h n tgt lv st) (kf : x = 0 → zJ X R M Q fr k j h n (pc + 3) lv st) : zJ X R M Q fr k j h n pc lv (.int x :: st) := by
  intro p e s m args below meth c A H locs ls hB hDD hL
  exact lv_if_ne hB.1 hB.2.1 hd ht (fun hh => kt hh p e s m args below meth c A H locs ls hB hDD hL) (fun hh => kf hh p e s m args below meth c A H locs ls hB hDD hL)
theorem z_icmp_ne {x y : Int32} {off : Int} (hd : decode M.2.1 pc = .ok (.if_icmp .ne off, 3)) (tgt : Nat) (ht : (pc : Int) + off = (tgt : Int)) (kt : ¬ x = y → zJ X R M Q fr k j h n tgt lv st) (kf : x = y → zJ X R M Q fr k j h n (pc + 3) lv st) : zJ X R M Q fr k j h n pc lv (.int y :: .int x :: st) := by
  intro p e s m args below meth c A H locs ls hB hDD hL
  exact lv_icmp_ne hB.1 hB.2.1 hd ht (fun hh => kt hh p e s m args below meth c A H locs ls hB hDD hL) (fun hh => kf hh p e s m args below meth c A H locs ls hB hDD hL)
theorem z_if_lt {x : Int32} {off : Int} (hd : decode M.2.1 pc = .ok (.ifCond .lt off, 3)) (tgt : Nat) (ht : (pc : Int) + off = (tgt : Int)) (kt : x < 0 → zJ X R M Q fr k j h n tgt lv st) (kf : ¬ x < 0 → zJ X R M Q fr k j h n (pc + 3) lv st) : zJ X R M Q fr k j h n pc lv (.int x :: st) := by
  intro p e s m args below meth c A H locs ls hB hDD hL
  exact lv_if_lt hB.1 hB.2.1 hd ht (fun hh => kt hh p e s m args below meth c A H locs ls hB hDD hL) (fun hh => kf hh p e s m args below meth c A H locs ls hB hDD hL)
theorem z_icmp_lt {x y : Int32} {off : Int} (hd : decode M.2.1 pc = .ok (.if_icmp .lt off, 3)) (tgt : Nat) (ht : (pc : Int) + off = (tgt : Int)) (kt : x < y → zJ X R M Q fr k j h n tgt lv st) (kf : ¬ x < y → zJ X R M Q fr k j h n (pc + 3) lv st) : zJ X R M Q fr k j h n pc lv (.int y :: .int x :: st) := by
  intro p e s m args below meth c A H locs ls hB hDD hL
  exact lv_icmp_lt hB.1 hB.2.1 hd ht (fun hh => kt hh p e s m args below meth c A H locs ls hB hDD hL) (fun hh => kf hh p e s m args below meth c A H locs ls hB hDD hL)
theorem z_if_ge {x : Int32} {off : Int} (hd : decode M.2.1 pc = .ok (.ifCond .ge off, 3)) (tgt : Nat) (ht : (pc : Int) + off = (tgt : Int)) (kt : 0 ≤ x → zJ X R M Q fr k j h n tgt lv st) (kf : ¬ 0 ≤ x → zJ X R M Q fr k j h n (pc + 3) lv st) : zJ X R M Q fr k j h n pc lv (.int x :: st) := by
  intro p e s m args below meth c A H locs ls hB hDD hL
  exact lv_if_ge hB.1 hB.2.1 hd ht (fun hh => kt hh p e s m args below meth c A H locs ls hB hDD hL) (fun hh => kf hh p e s m args below meth c A H locs ls hB hDD hL)
theorem z_icmp_ge {x y : Int32} {off : Int} (hd : decode M.2.1 pc = .ok (.if_icmp .ge off, 3)) (tgt : Nat) (ht : (pc : Int) + off = (tgt : Int)) (kt : y ≤ x → zJ X R M Q fr k j h n tgt lv st) (kf : ¬ y ≤ x → zJ X R M Q fr k j h n (pc + 3) lv st) : zJ X R M Q fr k j h n pc lv (.int y :: .int x :: st) := by
  intro p e s m args below meth c A H locs ls hB hDD hL
  exact lv_icmp_ge hB.1 hB.2.1 hd ht (fun hh => kt hh p e s m args below meth c A H locs ls hB hDD hL) (fun hh => kf hh p e s m args below meth c A H locs ls hB hDD hL)
theorem z_if_gt {x : Int32} {off : Int} (hd : decode M.2.1 pc = .ok (.ifCond .gt off, 3)) (tgt : Nat) (ht : (pc : Int) + off = (tgt : Int)) (kt : 0 < x → zJ X R M Q fr k j h n tgt lv st) (kf : ¬ 0 < x → zJ X R M Q fr k j h n (pc + 3) lv st) : zJ X R M Q fr k j h n pc lv (.int x :: st) := by
  intro p e s m args below meth c A H locs ls hB hDD hL
  exact lv_if_gt hB.1 hB.2.1 hd ht (fun hh => kt hh p e s m args below meth c A H locs ls hB hDD hL) (fun hh => kf hh p e s m args below meth c A H locs ls hB hDD hL)
theorem z_icmp_gt {x y : Int32} {off : Int} (hd : decode M.2.1 pc = .ok (.if_icmp .gt off, 3)) (tgt : Nat) (ht : (pc : Int) + off = (tgt : Int)) (kt : y < x → zJ X R M Q fr k j h n tgt lv st) (kf : ¬ y < x → zJ X R M Q fr k j h n (pc + 3) lv st) : zJ X R M Q fr k j h n pc lv (.int y :: .int x :: st) := by
  intro p e s m args below meth c A H locs ls hB hDD hL
  exact lv_icmp_gt hB.1 hB.2.1 hd ht (fun hh => kt hh p e s m args below meth c A H locs ls hB hDD hL) (fun hh => kf hh p e s m args below meth c A H locs ls hB hDD hL)
theorem z_if_le {x : Int32} {off : Int} (hd : decode M.2.1 pc = .ok (.ifCond .le off, 3)) (tgt : Nat) (ht : (pc : Int) + off = (tgt : Int)) (kt : x ≤ 0 → zJ X R M Q fr k j h n tgt lv st) (kf : ¬ x ≤ 0 → zJ X R M Q fr k j h n (pc + 3) lv st) : zJ X R M Q fr k j h n pc lv (.int x :: st) := by
  intro p e s m args below meth c A H locs ls hB hDD hL
  exact lv_if_le hB.1 hB.2.1 hd ht (fun hh => kt hh p e s m args below meth c A H locs ls hB hDD hL) (fun hh => kf hh p e s m args below meth c A H locs ls hB hDD hL)
theorem z_icmp_le {x y : Int32} {off : Int} (hd : decode M.2.1 pc = .ok (.if_icmp .le off, 3)) (tgt : Nat) (ht : (pc : Int) + off = (tgt : Int)) (kt : x ≤ y → zJ X R M Q fr k j h n tgt lv st) (kf : ¬ x ≤ y → zJ X R M Q fr k j h n (pc + 3) lv st) : zJ X R M Q fr k j h n pc lv (.int y :: .int x :: st) := by
  intro p e s m args below meth c A H locs ls hB hDD hL
  exact lv_icmp_le hB.1 hB.2.1 hd ht (fun hh => kt hh p e s m args below meth c A H locs ls hB hDD hL) (fun hh => kf hh p e s m args below meth c A H locs ls hB hDD hL)
theorem z_goto {off : Int} (hd : decode M.2.1 pc = .ok (.goto off, 3)) (tgt : Nat) (ht : (pc : Int) + off = (tgt : Int)) (kk : zJ X R M Q fr k j h n tgt lv st) : zJ X R M Q fr k j h n pc lv st := by
  intro p e s m args below meth c A H locs ls hB hDD hL
  exact lv_goto hB.1 hB.2.1 hd ht (kk p e s m args below meth c A H locs ls hB hDD hL)
theorem z_tableIn {dflt lo hi : Int} {offs : Array Int} {len : Nat} {x : Int32} {off : Int} (hd : decode M.2.1 pc = .ok (.tableswitch dflt lo hi offs, len)) (tgt : Nat) (h1 : ¬ x.toInt < lo) (h2 : ¬ hi < x.toInt) (ho : offs[(x.toInt - lo).toNat]? = some off) (ht : (pc : Int) + off = (tgt : Int)) (kk : zJ X R M Q fr k j h n tgt lv st) : zJ X R M Q fr k j h n pc lv (.int x :: st) := by
  intro p e s m args below meth c A H locs ls hB hDD hL
  exact lv_tableIn hB.1 hB.2.1 hd h1 h2 ho ht (kk p e s m args below meth c A H locs ls hB hDD hL)
theorem z_tableOut {dflt lo hi : Int} {offs : Array Int} {len : Nat} {x : Int32} (hd : decode M.2.1 pc = .ok (.tableswitch dflt lo hi offs, len)) (tgt : Nat) (h1 : x.toInt < lo ∨ hi < x.toInt) (ht : (pc : Int) + dflt = (tgt : Int)) (kk : zJ X R M Q fr k j h n tgt lv st) : zJ X R M Q fr k j h n pc lv (.int x :: st) := by
  intro p e s m args below meth c A H locs ls hB hDD hL
  exact lv_tableOut hB.1 hB.2.1 hd h1 ht (kk p e s m args below meth c A H locs ls hB hDD hL)
theorem z_lookup {dflt : Int} {ps : Array (Int × Int)} {len : Nat} {x : Int32} {off : Int} (hd : decode M.2.1 pc = .ok (.lookupswitch dflt ps, len)) (tgt : Nat) (hp : (ps.toList.zip (ps.toList.drop 1)).all (fun (a, next) => a.1 < next.1) = true) (ho : Op.lookupswitch.offset ps.toList dflt x.toInt = off) (ht : (pc : Int) + off = (tgt : Int)) (kk : zJ X R M Q fr k j h n tgt lv st) : zJ X R M Q fr k j h n pc lv (.int x :: st) := by
  intro p e s m args below meth c A H locs ls hB hDD hL
  exact lv_lookup hB.1 hB.2.1 hd hp ho ht (kk p e s m args below meth c A H locs ls hB hDD hL)
theorem z_ldc {ix : Nat} {v : Int32} (hd : decode M.2.1 pc = .ok (.ldc ix, 2)) (hw : Cond.constant M.1.cls ix v ∈ zWA) (kk : zJ X R M Q fr k j h n (pc + 2) lv (.int v :: st)) : zJ X R M Q fr k j h n pc lv st := by
  intro p e s m args below meth c A H locs ls hB hDD hL
  exact lv_ldc hB.1 hB.2.1 hB.own (hB.word hw) hd (kk p e s m args below meth c A H locs ls hB hDD hL)
theorem z_ldc2 {ix : Nat} {v : Int64} (hd : decode M.2.1 pc = .ok (.ldc2_w ix, 3)) (hw : Cond.constantLong M.1.cls ix v ∈ zWA) (kk : zJ X R M Q fr k j h n (pc + 3) lv (.long v :: st)) : zJ X R M Q fr k j h n pc lv st := by
  intro p e s m args below meth c A H locs ls hB hDD hL
  exact lv_ldc2 hB.1 hB.2.1 hB.own (hB.word hw) hd (kk p e s m args below meth c A H locs ls hB hDD hL)
theorem z_get {ix ci kf a : Nat} {fs : List Value} {v : Value} (hd : decode M.2.1 pc = .ok (.getfield ix, 3)) (f : zFd M.1.cls ix ci kf) (ha : a < n) (hc : h a = .inr (ci, fs)) (hv : fs[kf]? = some v) (kk : zJ X R M Q fr k j h n (pc + 3) lv (v :: st)) : zJ X R M Q fr k j h n pc lv (.ref a :: st) := by
  intro p e s m args below meth c A H locs ls hB hDD hL
  obtain ⟨C, T, N, f1, f2, f3, f4⟩ := f
  exact va_get (ci := ci) (v := zV X.2.2.2.1 v) hB.1 hB.2.1 hB.words f3 hB.own hB.kinds hDD.1 a (fs := fs.map (zV X.2.2.2.1)) (by rw [zW_get ha, hc]; rfl) f1 kf f2 (hB.word f4) (fun _ h9 => h9) (by rw [List.getElem?_map, hv]; rfl) hd (kk p e s m args below meth c A H locs ls hB hDD hL)
theorem z_put {ix ci kf a : Nat} {fs : List Value} {v : Value} {ty : FieldType} {h' : zH} (hd : decode M.2.1 pc = .ok (.putfield ix, 3)) (f : zFd M.1.cls ix ci kf) (fp : zFp ci kf ty false) (ha : a < n) (hc : h a = .inr (ci, fs)) (hl : kf < fs.length) (hw : narrow ty (zV X.2.2.2.1 v) = zV X.2.2.2.1 v) (hft : fits ty (zV X.2.2.2.1 v) = true) (hh : va_up h a (.inr (ci, fs.set kf v)) = h')
    (kk : zJ X R M Q fr k j h' n (pc + 3) lv st) : zJ X R M Q fr k j h n pc lv (v :: .ref a :: st) := by
  intro p e s m args below meth c A H locs ls hB hDD hL
  subst hh
  obtain ⟨C, T, N, f1, f2, f3, f4⟩ := f
  obtain ⟨ty0, g1, g2, g3, g4⟩ := fp C T N f1
  refine va_put (ci := ci) (v := zV X.2.2.2.1 v) (ty := ty) hB.1 hB.2.1 hB.words f3 ty0 g1 g2 hB.own hB.kinds hDD.1 hDD.2.1 (zS_self hDD.2.2.1) a (fs := fs.map (zV X.2.2.2.1)) (by rw [zW_get ha, hc]; rfl) f1 kf f2 (hB.word f4) (fun _ h9 => h9) g3 g4 hw hft (by simpa using hl) hd (fun H1 locs1 hP hD hS => ?_)
  rw [← List.map_set] at hP hD
  exact kk p e s m args below meth c A H1 locs1 ls hB (zD_put ha hDD hP hD hS) hL
theorem z_putF {ix ci kf a : Nat} {fs : List Value} {v : Value} {ty : FieldType} {h' : zH} (hd : decode M.2.1 pc = .ok (.putfield ix, 3)) (f : zFd M.1.cls ix ci kf) (fp : zFp ci kf ty true) (hi : M.1.name = "<init>") (ho : ∀ q, zCl[ci]? = some q → (q.2.1 kf).1 = M.1.cls) (ha : a < n) (hc : h a = .inr (ci, fs)) (hl : kf < fs.length) (hw : narrow ty (zV X.2.2.2.1 v) = zV X.2.2.2.1 v) (hft : fits ty (zV X.2.2.2.1 v) = true) (hh : va_up h a (.inr (ci, fs.set kf v)) = h')
    (kk : zJ X R M Q fr k j h' n (pc + 3) lv st) : zJ X R M Q fr k j h n pc lv (v :: .ref a :: st) := by
  intro p e s m args below meth c A H locs ls hB hDD hL
  subst hh
  obtain ⟨C, T, N, f1, f2, f3, f4⟩ := f
  obtain ⟨ty0, g1, g2, g3, g4⟩ := fp C T N f1
  refine va_putF (ci := ci) (v := zV X.2.2.2.1 v) (ty := ty) hB.1 hB.2.1 hB.words f3 ty0 g1 g2 hB.own hB.kinds hDD.1 hDD.2.1 (zS_self hDD.2.2.1) a (fs := fs.map (zV X.2.2.2.1)) (by rw [zW_get ha, hc]; rfl) f1 kf f2 (hB.word f4) (fun _ h9 => h9) g3 (hB.mname.trans hi) (ho _ f1) g4 hw hft (by simpa using hl) hd (fun H1 locs1 hP hD hS => ?_)
  rw [← List.map_set] at hP hD
  exact kk p e s m args below meth c A H1 locs1 ls hB (zD_put ha hDD hP hD hS) hL
theorem z_iald {a len t : Nat} {f : Nat → Int32} {i : Int32} (hd : decode M.2.1 pc = .ok (.iaload, 1)) (ha : a < n) (hc : h a = .inl (0, len, .inl f)) (hi : zin i t len) (kk : zJ X R M Q fr k j h n (pc + 1) lv (.int (f t) :: st)) : zJ X R M Q fr k j h n pc lv (.int i :: .ref a :: st) := by
  intro p e s m args below meth c A H locs ls hB hDD hL
  have h9 := kk p e s m args below meth c A H locs ls hB hDD hL
  rw [← hi.cl] at h9
  exact va_iald hB.1 hB.2.1 hB.kinds hDD.1 a 0 (by rw [zW_get ha, hc]; rfl) rfl hi.vp hd h9
theorem z_lald {a len t : Nat} {f : Nat → Int64} {i : Int32} (hd : decode M.2.1 pc = .ok (.laload, 1)) (ha : a < n) (hc : h a = .inl (1, len, .inr (.inl f))) (hi : zin i t len) (kk : zJ X R M Q fr k j h n (pc + 1) lv (.long (f t) :: st)) : zJ X R M Q fr k j h n pc lv (.int i :: .ref a :: st) := by
  intro p e s m args below meth c A H locs ls hB hDD hL
  have h9 := kk p e s m args below meth c A H locs ls hB hDD hL
  rw [← hi.cl] at h9
  exact va_lald hB.1 hB.2.1 hB.kinds hDD.1 a 1 (by rw [zW_get ha, hc]; rfl) rfl hi.vp hd h9
theorem z_zald {a len t : Nat} {f : Nat → Int32} {i : Int32} (hd : decode M.2.1 pc = .ok (.baload, 1)) (ha : a < n) (hc : h a = .inl (2, len, .inl f)) (hi : zin i t len) (kk : zJ X R M Q fr k j h n (pc + 1) lv (.int (f t) :: st)) : zJ X R M Q fr k j h n pc lv (.int i :: .ref a :: st) := by
  intro p e s m args below meth c A H locs ls hB hDD hL
  have h9 := kk p e s m args below meth c A H locs ls hB hDD hL
  rw [← hi.cl] at h9
  exact va_zald hB.1 hB.2.1 hB.kinds hDD.1 a 2 (by rw [zW_get ha, hc]; rfl) rfl hi.vp hd h9
theorem z_iast {a len t : Nat} {f : Nat → Int32} {i : Int32} {x : Int32} {h' : zH} (hd : decode M.2.1 pc = .ok (.iastore, 1)) (ha : a < n) (hc : h a = .inl (0, len, .inl f)) (hi : zin i t len) (hh : va_up h a (.inl (0, len, .inl (upd f t x))) = h') (kk : zJ X R M Q fr k j h' n (pc + 1) lv st) : zJ X R M Q fr k j h n pc lv (.int x :: .int i :: .ref a :: st) := by
  intro p e s m args below meth c A H locs ls hB hDD hL
  subst hh
  refine va_iast hB.1 hB.2.1 hB.kinds hDD.1 hDD.2.1 (zS_self hDD.2.2.1) a 0 (by rw [zW_get ha, hc]; rfl) rfl hi.vp hd (fun H1 locs1 hP hD hS => ?_)
  rw [hi.cl] at hP hD
  exact kk p e s m args below meth c A H1 locs1 ls hB (zD_put ha hDD hP hD hS) hL
theorem z_last {a len t : Nat} {f : Nat → Int64} {i : Int32} {x : Int64} {h' : zH} (hd : decode M.2.1 pc = .ok (.lastore, 1)) (ha : a < n) (hc : h a = .inl (1, len, .inr (.inl f))) (hi : zin i t len) (hh : va_up h a (.inl (1, len, .inr (.inl (vp_updL f t x)))) = h') (kk : zJ X R M Q fr k j h' n (pc + 1) lv st) : zJ X R M Q fr k j h n pc lv (.long x :: .int i :: .ref a :: st) := by
  intro p e s m args below meth c A H locs ls hB hDD hL
  subst hh
  refine va_last hB.1 hB.2.1 hB.kinds hDD.1 hDD.2.1 (zS_self hDD.2.2.1) a 1 (by rw [zW_get ha, hc]; rfl) rfl hi.vp hd (fun H1 locs1 hP hD hS => ?_)
  rw [hi.cl] at hP hD
  exact kk p e s m args below meth c A H1 locs1 ls hB (zD_put ha hDD hP hD hS) hL
theorem z_zast {a len t : Nat} {f : Nat → Int32} {i : Int32} {x : Int32} {h' : zH} (hd : decode M.2.1 pc = .ok (.bastore, 1)) (ha : a < n) (hc : h a = .inl (2, len, .inl f)) (hi : zin i t len) (hx : vp_nar .boolean x = x) (hh : va_up h a (.inl (2, len, .inl (upd f t x))) = h') (kk : zJ X R M Q fr k j h' n (pc + 1) lv st) : zJ X R M Q fr k j h n pc lv (.int x :: .int i :: .ref a :: st) := by
  intro p e s m args below meth c A H locs ls hB hDD hL
  subst hh
  refine va_zast hB.1 hB.2.1 hB.kinds hDD.1 hDD.2.1 (zS_self hDD.2.2.1) a 2 (by rw [zW_get ha, hc]; rfl) rfl hi.vp hd (fun H1 locs1 hP hD hS => ?_)
  rw [hi.cl, hx] at hP hD
  exact kk p e s m args below meth c A H1 locs1 ls hB (zD_put ha hDD hP hD hS) hL
theorem z_aald {a len t r tc : Nat} {g : Nat → Option Nat} {C : String} {i : Int32} (hd : decode M.2.1 pc = .ok (.aaload, 1)) (ha : a < n) (hc : h a = .inl (tc, len, .inr (.inr (.inr (.inr g))))) (ht : (zT X.2.2.2.2)[tc]? = some (X.2.2.2.2 tc, .object C)) (hi : zin i t len) (hg : g t = some r) (kk : zJ X R M Q fr k j h n (pc + 1) lv (.ref r :: st)) : zJ X R M Q fr k j h n pc lv (.int i :: .ref a :: st) := by
  intro p e s m args below meth c A H locs ls hB hDD hL
  have h9 := kk p e s m args below meth c A H locs ls hB hDD hL
  refine va_aldq (f := fun i => (g i).map X.2.2.2.1) hB.1 hB.2.1 hB.kinds hDD.1 a tc (by rw [zW_get ha, hc]; rfl) ht hi.vp hd ?_
  rw [hi.cl, hg]
  exact h9
theorem z_alen {a tc : Nat} {x : vp_A} {ty : FieldType} {v : Int32} (hd : decode M.2.1 pc = .ok (.arraylength, 1)) (ha : a < n) (hc : h a = .inl (tc, x)) (ht : (zT X.2.2.2.2)[tc]? = some (X.2.2.2.2 tc, ty)) (hv : Int32.ofNat x.1 = v) (kk : zJ X R M Q fr k j h n (pc + 1) lv (.int v :: st)) : zJ X R M Q fr k j h n pc lv (.ref a :: st) := by
  intro p e s m args below meth c A H locs ls hB hDD hL
  exact va_alen (x := zA X.2.2.2.1 x) hB.1 hB.2.1 hB.kinds hDD.1 a tc (by rw [zW_get ha, hc]; rfl) ht (by rw [zA_len]; exact hv) hd (kk p e s m args below meth c A H locs ls hB hDD hL)
end ZR
end
section
/-! contracts out of walks, calls, ends -/
theorem zlg_len (ad : Nat → Nat) : ∀ av : List Value, (lg_sl (av.map (zV ad))).length = (lg_sl av).length
  | [] => rfl
  | v :: vs => by
    have h := zlg_len ad vs
    simp only [lg_sl, List.map_cons, List.flatMap_cons, List.length_append] at h ⊢
    rw [zV_cat, h]
    split <;> rfl
/-- a contract, out of a walk of the method's body -/
theorem zC_of {X : zX} {d : Nat} {M : zM} {mc ms : Nat} {fr : Bool} {av : List Value} {h : zH} {n : Nat} {v : Option Value} {hf : zH} {nf : Nat} (hy : plainName M.1.cls = true) (hlen : (lg_sl av).length ≤ M.2.2.1) (hJ : zJ X (zR d mc ms) M (zRet X mc ms fr v hf nf) fr 0 0 h n 0 (lv_args 0 av) []) : zC X d M mc ms fr av h n v hf nf := by
  intro sz
  refine Met.ofW (cc := M.2.1) (maxL := M.2.2.1) (ret := M.2.2.2) hy rfl ?_
  intro p e s m args below meth c s₁ B hml hv
  obtain ⟨rfl, hsz, hP, hK, hD0, hst, hfr⟩ := hv
  subst hsz
  have hl := lv_entry (av.map (zV X.2.2.2.1)) (n := M.2.2.1) (by rw [zlg_len]; exact hlen)
  rw [lg_entry_eq]
  rw [zlv_map] at hl
  have hpre := atoms_spec (ws := zws M) B.pre
  have hT : ∀ x ∈ c.exceptionTable.toList, False := by
    have h7 := BodyLoose.noHandlers B (hpre _ List.mem_cons_self)
    intro x hx
    rw [Array.isEmpty_iff.mp h7] at hx
    cases hx
  exact hJ p e s m _ below meth c _ s.heap [] _ ⟨B.exec, B.bytes, hml, B.returns, B.notSynchronized, fun w hw => hpre w (List.mem_cons_of_mem _ hw), findClass_of_methodNamed B.named, (name_of_methodNamed B.named B.method).1, ⟨fun _ => hT, B.named⟩, hK, hst, fun q h => Or.inr h⟩
    ⟨hP, hD0.self, va_S.rf, fun hf => ⟨Nat.le_of_eq (hfr hf).symm, (hfr hf).symm⟩⟩ hl
section ZK
variable {p : Program} {l : Launch} {e : Env} {R : Room} {s : State} {m : MethodId} {args : Array Value} {below : List Frame} {meth : Method} {c : Code} {H : Heap} {locs : List Loc} {cells slots : Nat} {Q : State → Prop} {g : JFrame}
theorem zW_sz (kk : H.size ≤ s.heap.size + cells → W p l e R s m args below meth c H locs cells slots Q g) : W p l e R s m args below meth c H locs cells slots Q g :=
  fun T hT Y => kk (by have h9 := Y.heapSize; rw [hT] at h9; omega) T hT Y
end ZK
section ZC
variable {X : zX} {R : Room} {M : zM} {Q : zQT} {fr : Bool} {k j : Nat} {h : zH} {n pc : Nat} {lv : List (Nat × Value)} {st : List Value}
variable {p : Program} {e : Env} {s : State} {m : MethodId} {args : Array Value} {below : List Frame} {meth : Method} {c : Code} {A : Nat → Prop} {H : Heap} {locs : List Loc} {ls : Array Slot}
theorem zc_in (hDD : zD X A s fr k h n H locs) (hB : zB X M p s m args meth c A) : ∀ q, va_A (zW X.2.2.2.1 X.2.2.2.2 h n) H.size q → A q := by
  intro q hq
  rcases hq with ⟨i, e9, hi⟩ | hq
  · exact hDD.2.1.2 i (q, e9) hi
  · exact hB.hA q (Nat.le_trans hDD.2.2.1.1 hq)
theorem zc_pre (hDD : zD X A s fr k h n H locs) (hB : zB X M p s m args meth c A) (hsz : H.size ≤ s.heap.size + k) (av : List Value) : PreS s H (zPc X fr av h n H.size) (av.map (zV X.2.2.2.1)) := by
  refine ⟨fun a U g mk q => ?_, fun U hU hW => ?_⟩
  · obtain ⟨q0, q1, qP, qK, qD, qS, qf⟩ := q
    exact ⟨q0, q1, qP, va_K.moved (u := U) (U := U.calling g mk a) (Vm.Alike.refl U.vm) qK, qD, zS_same (U := U) (U' := U.calling g mk a) rfl rfl qS, qf⟩
  · refine ⟨rfl, by rw [hU], by rw [hU]; exact hDD.1, va_K.moved hW.alike hB.kinds, hDD.2.1.weaken (fun _ _ _ _ => trivial), ?_, fun hf => ?_⟩
    · rw [hU]
      exact zS_move hW (zc_in hDD hB) hDD.2.2.1 hB.stat
    · obtain ⟨h1, h2⟩ := hDD.2.2.2 hf
      omega
theorem zc_keep {st₀ t T' : State} {L : List Loc} (hB : zB X M p s m args meth c A) (hDD : zD X A s fr k h n H locs) (h0 : st₀.heap = H) (e1 : T'.heap = t.heap) (hL : ∀ q ∈ L, va_A (zW X.2.2.2.1 X.2.2.2.2 h n) H.size q.base) (hF : va_F (va_A (zW X.2.2.2.1 X.2.2.2.2 h n) H.size) st₀ t) : va_S A s.heap T'.heap (locs ++ L) := by
  obtain ⟨f1, f2⟩ := hF
  rw [h0] at f1 f2
  refine zS_tr hDD.2.2.1 ⟨by rw [e1]; exact f1, fun q hq hA => ?_, fun q hq => ?_⟩
  · rw [e1]
    exact f2 q hq (fun h9 => hA (zc_in hDD hB q h9))
  · rcases List.mem_append.mp hq with h9 | h9
    · exact hDD.2.2.1.2.2 q h9
    · exact zc_in hDD hB _ (hL q h9)
theorem zc_go {mc' ms' n' : Nat} {v : Option Value} {h' : zH} {a : Array Value} {stc : List Value} (hB : zB X M p s m args meth c A) (hDD : zD X A s fr k h n H locs) (hL : lv_has ls M.2.2.1 (lv.map fun q => (q.1, zV X.2.2.2.1 q.2)))
    (hr : va_Run p X.1 e R s m args below meth c H locs k j mc' ms' (F0 m pc ls stc) (st.map (zV X.2.2.2.1)) (zQ X (va_A (zW X.2.2.2.1 X.2.2.2.2 h n) H.size) fr v h' n' a) (va_A (zW X.2.2.2.1 X.2.2.2.2 h n) H.size))
    (hn : fr = true → X.2.2.2.1 n' = X.2.2.2.1 n + mc') (kk : zJ X R M Q fr (k + mc') (j + ms') h' n' (pc + 3) lv (v.toList ++ st)) :
    W p X.1 e R s m args below meth c H locs k j (Q A below args s) (F0 m pc ls stc) := by
  intro T hT X0
  obtain ⟨v9, st0, t, T', L, h0, X', hL9, e1, e2, ⟨hv9, hP, hD, hF, hz⟩, stp⟩ := hr T hT X0
  cases hv9
  obtain ⟨t2, a1, b1⟩ := kk p e s m args below meth c A T'.heap (locs ++ L) ls hB ⟨by rw [e1]; exact hP, hD.weaken (fun _ _ _ h9 => zc_in hDD hB _ h9), zc_keep hB hDD h0 e1 hL9 hF, fun hf => ⟨by rw [e1]; exact hz hf, by rw [hn hf, (hDD.2.2.2 hf).2]; omega⟩⟩ hL T' rfl X'
  refine ⟨t2, stp t2 ?_, b1⟩
  cases v <;> exact a1
end ZC
/-! words of a call -/
def zGw (M' : zM) (na : Nat) : Prop := Cond.code M'.1 M'.2.1 M'.2.2.1 M'.2.2.2 ∈ zWA ∧ Cond.initialized M'.1.cls ∈ zWA ∧ (M'.1.cls ≠ "java/lang/invoke/MethodHandle" ∧ M'.1.cls ≠ "java/lang/invoke/VarHandle" ∧ (parseMethodDescriptor M'.1.desc).map (fun d => d.parameters.length) = some na) ∧ M'.2.2.1 ≤ 14
def zGv (own : String) (ix : Nat) (M' : zM) (na : Nat) : Prop := zGw M' na ∧ Cond.methodLink own ix M'.1 ∈ zWA ∧ Cond.instanceMethod M'.1 ∈ zWA ∧ Cond.selects M'.1.cls M'.1 M'.1 ∈ zWA
def zGs (own : String) (ix : Nat) (M' : zM) (na : Nat) : Prop := zGw M' na ∧ Cond.methodLink own ix M'.1 ∈ zWA ∧ Cond.static M'.1 ∈ zWA
def zGn (own : String) (ix : Nat) (M' : zM) (na : Nat) : Prop := zGw M' na ∧ (own, ix, M'.1) ∈ zNest ∧ Cond.static M'.1 ∈ zWA
def zGi (own : String) (ix : Nat) (M' : zM) (na : Nat) : Prop := zGw M' na ∧ Cond.methodLink own ix M'.1 ∈ zWA ∧ Cond.instanceMethod M'.1 ∈ zWA ∧ M'.1.name = "<init>" ∧ M'.2.2.2 = none
def zGin (own : String) (ix : Nat) (M' : zM) (na : Nat) : Prop := zGw M' na ∧ (own, ix, M'.1) ∈ zNest ∧ Cond.instanceMethod M'.1 ∈ zWA ∧ M'.1.name = "<init>" ∧ M'.2.2.2 = none
theorem zGood {L : List Cond} (h : ∀ w ∈ L, w ∈ zWA) : GoodIn zWA L := fun w hw => ⟨h w hw, good_of_word (zWA_good w (h w hw))⟩
theorem zGood' {M' : zM} (h : Cond.code M'.1 M'.2.1 M'.2.2.1 M'.2.2.2 ∈ zWA) : ∀ w ∈ zws M', w ∈ zWA := fun w hw => by
  rcases List.mem_cons.mp hw with rfl | hw
  · exact h
  · exact hw
theorem zst_sum {ad : Nat → Nat} {st : List Value} (h : (st.map fun v => v.category).sum ≤ 8) : ((st.map (zV ad)).map fun v => v.category).sum ≤ 8 := by
  have e : (st.map (zV ad)).map (fun v => v.category) = st.map fun v => v.category := by
    rw [List.map_map]
    exact List.map_congr_left fun v _ => zV_cat ad v
  rw [e]
  exact h
section ZQ
variable {X : zX} {R : Room} {M : zM} {Q : zQT} {fr : Bool} {k j : Nat} {h : zH} {n pc : Nat} {lv : List (Nat × Value)} {st stk : List Value}
variable {d' mc' ms' n' ix na : Nat} {M' : zM} {av : List Value} {h' : zH} {v : Option Value}
/-- the room of the caller is enough for the callee -/
def zRm (R : Room) (d' mc' ms' k j : Nat) : Prop := d' + 4 ≤ R.frames ∧ 33 * d' + 33 ≤ R.locals ∧ k + mc' ≤ R.cells ∧ j + ms' ≤ R.slots
theorem z_callS (hd : decode M.2.1 pc = .ok (.invokestatic ix, 3)) (g : zGs M.1.cls ix M' na) (hC : zC X d' M' mc' ms' fr av h n v h' n') (hstk : av.reverse ++ st = stk) (hR : zRm R d' mc' ms' k j) (hna : av.length = na) (hsum : (st.map fun v => v.category).sum ≤ 8) (hn : fr = true → X.2.2.2.1 n' = X.2.2.2.1 n + mc')
    (kk : zJ X R M Q fr (k + mc') (j + ms') h' n' (pc + 3) lv (v.toList ++ st)) : zJ X R M Q fr k j h n pc lv stk := by
  intro p e s m args below meth c A H locs ls hB hDD hL
  subst hstk
  obtain ⟨⟨g1, g2, g3, g4⟩, g5, g6⟩ := g
  obtain ⟨r1, r2, r3, r4⟩ := hR
  refine zW_sz fun hsz => zc_go hB hDD hL (va_runS (As := av.map (zV X.2.2.2.1)) (rest := st.map (zV X.2.2.2.1)) (n := na) ⟨hB.1, hB.2.1, hB.2.2.1, hB.own, hB.words⟩ (hC H.size)
    (va_cwS na hB.words (zGood (fun w hw => ?_)) rfl rfl rfl g3 ⟨?_, ?_⟩) (zc_pre hDD hB hsz av) rfl (by simpa using hna) hL.1 (by simp) (lv_room (zst_sum hsum)) hd ⟨r3, r4⟩) hn kk
  · unfold va_wsS at hw
    simp only [List.cons_append, List.nil_append, List.mem_cons] at hw
    rcases hw with rfl | rfl | rfl | hw
    · exact g5
    · exact g6
    · exact g2
    · exact zGood' g1 w hw
  · show d' + 3 + 1 ≤ R.frames
    omega
  · show 8 + (M'.2.2.1 + 11) + 33 * d' ≤ R.locals
    omega
theorem z_callN (hd : decode M.2.1 pc = .ok (.invokestatic ix, 3)) (g : zGn M.1.cls ix M' na) (hC : zC X d' M' mc' ms' fr av h n v h' n') (hstk : av.reverse ++ st = stk) (hR : zRm R d' mc' ms' k j) (hna : av.length = na) (hsum : (st.map fun v => v.category).sum ≤ 8) (hn : fr = true → X.2.2.2.1 n' = X.2.2.2.1 n + mc')
    (kk : zJ X R M Q fr (k + mc') (j + ms') h' n' (pc + 3) lv (v.toList ++ st)) : zJ X R M Q fr k j h n pc lv stk := by
  intro p e s m args below meth c A H locs ls hB hDD hL
  subst hstk
  obtain ⟨⟨g1, g2, g3, g4⟩, g5, g6⟩ := g
  obtain ⟨r1, r2, r3, r4⟩ := hR
  refine zW_sz fun hsz => zc_go hB hDD hL (va_runSN (As := av.map (zV X.2.2.2.1)) (rest := st.map (zV X.2.2.2.1)) (n := na) ⟨hB.1, hB.2.1, hB.2.2.1, hB.own, hB.words⟩ (hC H.size)
    ⟨va_cnB na hB.words (zGood (zGood' g1)) rfl rfl rfl (hB.stat.1 _ g5) (hB.word g2) g3 ⟨?_, ?_⟩, hB.word g6, trivial⟩ (zc_pre hDD hB hsz av) rfl (by simpa using hna) hL.1 (by simp) (lv_room (zst_sum hsum)) hd ⟨r3, r4⟩) hn kk
  · show d' + 3 + 1 ≤ R.frames
    omega
  · show 8 + (M'.2.2.1 + 11) + 33 * d' ≤ R.locals
    omega
theorem z_callV {b ci : Nat} {fs : List Value} {T : u_T} {N : Nat} (hd : decode M.2.1 pc = .ok (.invokevirtual ix, 3)) (g : zGv M.1.cls ix M' na) (hC : zC X d' M' mc' ms' fr (.ref b :: av) h n v h' n') (hb : b < n) (hc : h b = .inr (ci, fs)) (hci : zCl[ci]? = some (M'.1.cls, T, N)) (hstk : av.reverse ++ .ref b :: st = stk) (hR : zRm R d' mc' ms' k j) (hna : av.length = na) (hsum : (st.map fun v => v.category).sum ≤ 8) (hn : fr = true → X.2.2.2.1 n' = X.2.2.2.1 n + mc')
    (kk : zJ X R M Q fr (k + mc') (j + ms') h' n' (pc + 3) lv (v.toList ++ st)) : zJ X R M Q fr k j h n pc lv stk := by
  intro p e s m args below meth c A H locs ls hB hDD hL
  subst hstk
  obtain ⟨⟨g1, g2, g3, g4⟩, g5, g6, g7⟩ := g
  obtain ⟨r1, r2, r3, r4⟩ := hR
  refine zW_sz fun hsz => ?_
  have hpr := zc_pre hDD hB hsz (.ref b :: av)
  refine zc_go hB hDD hL (va_runV (C := M'.1.cls) (b := X.2.2.2.1 b) (As := av.map (zV X.2.2.2.1)) (rest := st.map (zV X.2.2.2.1)) (n := na) ⟨hB.1, hB.2.1, hB.2.2.1, hB.own, hB.words⟩ (hC H.size)
    (cwV na hB.words (zGood (fun w hw => ?_)) rfl rfl rfl ⟨rfl, g3⟩ ⟨?_, ?_⟩) ⟨hpr.1, va_recv hB.kinds hDD.1 hci (q0 := b) (fs := fs.map (zV X.2.2.2.1)) (by rw [zW_get hb, hc]; rfl), hpr.2⟩ rfl (by simpa using hna) hL.1 (by simp [zV]) (lv_room (zst_sum hsum)) hd ⟨r3, r4⟩) hn kk
  · unfold wsV at hw
    simp only [List.cons_append, List.nil_append, List.mem_cons] at hw
    rcases hw with rfl | rfl | rfl | rfl | hw
    · exact g5
    · exact g6
    · exact g7
    · exact g2
    · exact zGood' g1 w hw
  · show d' + 3 + 1 ≤ R.frames
    omega
  · show 8 + (M'.2.2.1 + 11) + 33 * d' ≤ R.locals
    omega
end ZQ
section ZE
variable {X : zX} {R : Room} {M : zM} {mc ms : Nat} {fr : Bool} {hf : zH} {k j : Nat} {h : zH} {n pc : Nat} {lv : List (Nat × Value)}
theorem zF_of {A : Nat → Prop} {s t : State} {H : Heap} {locs : List Loc} (hDD : zD X A s fr k h n H locs) (ht : t.heap = H) : zF X A fr h n s t :=
  ⟨by rw [ht]; exact hDD.1, hDD.2.1, hDD.2.2.1.F ht, fun h9 => by rw [ht]; exact (hDD.2.2.2 h9).1⟩
theorem z_iret {x r : Int32} (hd : decode M.2.1 pc = .ok (.ireturn, 1)) (hr : M.2.2.2 = some .int) (hk : k ≤ mc) (hj : j ≤ ms) (hx : x = r) (hh : h = hf) : zJ X R M (zRet X mc ms fr (some (.int r)) hf n) fr k j h n pc lv [.int x] := by
  intro p e s m args below meth c A H locs ls hB hDD hL
  subst hx; subst hh
  exact W.widen hk hj (W.iret hB.1 hB.2.1 (hB.2.2.2.1.trans hr) (fun t ht hW => ⟨rfl, zF_of hDD ht⟩) hDD.2.2.1.2.2 hd hB.2.2.2.2.1)
theorem z_zret {x r : Int32} (hd : decode M.2.1 pc = .ok (.ireturn, 1)) (hr : M.2.2.2 = some .boolean) (hk : k ≤ mc) (hj : j ≤ ms) (hn : narrow .boolean (.int x) = .int x) (hx : x = r) (hh : h = hf) : zJ X R M (zRet X mc ms fr (some (.int r)) hf n) fr k j h n pc lv [.int x] := by
  intro p e s m args below meth c A H locs ls hB hDD hL
  subst hx; subst hh
  exact W.widen hk hj (W.zret hB.1 hB.2.1 (hB.2.2.2.1.trans hr) hn (fun t ht hW => ⟨rfl, zF_of hDD ht⟩) hDD.2.2.1.2.2 hd hB.2.2.2.2.1)
theorem z_lret {x r : Int64} (hd : decode M.2.1 pc = .ok (.lreturn, 1)) (hr : M.2.2.2 = some .long) (hk : k ≤ mc) (hj : j ≤ ms) (hx : x = r) (hh : h = hf) : zJ X R M (zRet X mc ms fr (some (.long r)) hf n) fr k j h n pc lv [.long x] := by
  intro p e s m args below meth c A H locs ls hB hDD hL
  subst hx; subst hh
  exact W.widen hk hj (W.lret hB.1 hB.2.1 (hB.2.2.2.1.trans hr) (fun t ht hW => ⟨rfl, zF_of hDD ht⟩) hDD.2.2.1.2.2 hd hB.2.2.2.2.1)
theorem z_vret (hd : decode M.2.1 pc = .ok (.return_, 1)) (hr : M.2.2.2 = none) (hk : k ≤ mc) (hj : j ≤ ms) (hh : h = hf) : zJ X R M (zRet X mc ms fr none hf n) fr k j h n pc lv [] := by
  intro p e s m args below meth c A H locs ls hB hDD hL
  subst hh
  exact W.widen hk hj (W.vret hB.1 hB.2.1 (hB.2.2.2.1.trans hr) (fun t ht hW => ⟨rfl, zF_of hDD ht⟩) hDD.2.2.1.2.2 hd hB.2.2.2.2.1)
/-- fewer of the locals are told -/
theorem z_loc {Q : zQT} {lv lv' : List (Nat × Value)} {st : List Value} (h1 : ∀ q ∈ lv', q ∈ lv) (kk : zJ X R M Q fr k j h n pc lv' st) : zJ X R M Q fr k j h n pc lv st := by
  intro p e s m args below meth c A H locs ls hB hDD hL
  refine kk p e s m args below meth c A H locs ls hB hDD ⟨hL.1, hL.2.1, fun q hq => hL.2.2 q ?_⟩
  obtain ⟨q0, hq0, rfl⟩ := List.mem_map.mp hq
  exact List.mem_map.mpr ⟨q0, h1 q0 hq0, rfl⟩
/-- the table of the operands' kinds -/
theorem z_kinds {Q : zQT} {t : Nat} {i : Int32} {st : List Value} (hd : decode M.2.1 pc = .ok (.iaload, 1)) (hi : zin i t 66) (kk : zJ X R M Q fr k j h n (pc + 1) lv (.int (zKinds.getD t 0) :: st)) : zJ X R M Q fr k j h n pc lv (.int i :: .ref 900 :: st) := by
  intro p e s m args below meth c A H locs ls hB hDD hL
  have h9 := kk p e s m args below meth c A H locs ls hB hDD hL
  rw [← hi.cl] at h9
  exact va_ti hB.1 hB.2.1 hB.stat.2.2.1 hDD.2.2.1 hi.vp rfl hd h9
theorem z_getKinds {Q : zQT} {ix : Nat} {st : List Value} (hd : decode M.2.1 pc = .ok (.getstatic ix, 3)) (hw : Cond.fieldLink M.1.cls ix "TableMachine$Op" "KINDS" "[I" ∈ zWA) (kk : zJ X R M Q fr k j h n (pc + 3) lv (.ref 900 :: st)) : zJ X R M Q fr k j h n pc lv st := by
  intro p e s m args below meth c A H locs ls hB hDD hL
  exact va_gets hB.1 hB.2.1 hB.stat.2.1 hDD.2.2.1 hB.own (hB.word hw) (fun _ h9 => h9) hd (kk p e s m args below meth c A H locs ls hB hDD hL)
end ZE
end
section
/-! methods that throw: nothing of the heap is changed, but that the exception is new -/
def zTQ (X : zX) (A : Nat → Prop) (mc ms : Nat) (E : String) (h : zH) (n : Nat) : Array Value → State → Outcome → State → Prop := fun _ st oc t =>
  ∃ (q : Addr) (ce : Cell), oc = .threw q ∧ t.heap[q]? = some ce ∧ ce.vm = .none ∧ st.vm.findClass E = some ce.cls ∧ zF X A false h n st t ∧ st.WarmedH t.vm ∧ ∃ L, st.sameButNew ({ t with vm := st.vm } : State) L mc ms ∧ ∀ z ∈ L, A z.base
/-- the method throws an E -/
def zThr (X : zX) (mc ms : Nat) (E : String) (h : zH) (n : Nat) : zQT := fun A below args s => fun t => ∃ o, t.status = .running ∧ Ended t below o ∧ zTQ X A mc ms E h n args s o t
/-- a contract: from the heap h, called with av, M throws an E -/
def zTC (X : zX) (d : Nat) (M : zM) (mc ms : Nat) (av : List Value) (h : zH) (n : Nat) (E : String) : Prop :=
  ∀ sz : Nat, MetFree X.1 M.1 (headSpec (zws M) (zR d mc ms)) (zPc X false av h n sz) (fun _ _ _ _ _ => True) (zTQ X (va_A (zW X.2.2.2.1 X.2.2.2.2 h n) sz) mc ms E h n)
theorem zTC_of {X : zX} {d : Nat} {M : zM} {mc ms : Nat} {av : List Value} {h : zH} {n : Nat} {E : String} (hy : plainName M.1.cls = true) (hlen : (lg_sl av).length ≤ M.2.2.1) (hJ : zJ X (zR d mc ms) M (zThr X mc ms E h n) false 0 0 h n 0 (lv_args 0 av) []) : zTC X d M mc ms av h n E := by
  intro sz
  refine MetFree.of_bodyS (code := M.2.1) (maxLocals := M.2.2.1) (ret := M.2.2.2) hy ?_ ?_
  · intro args s m h hn
    obtain ⟨meth, c, h1, h2, h3, h4, h5, h6, -, -⟩ := Cond.code_spec hn (atoms_spec (ws := zws M) h _ List.mem_cons_self)
    exact ⟨meth, c, h1, h2, h3, h4, h5, h6⟩
  · intro p e s m args below meth c s₁ B hml hv _
    have hh0 : s₁.heap = s.heap := by rw [B.state]; rfl
    obtain ⟨rfl, hsz, hP, hK, hD0, hst, hfr⟩ := hv
    subst hsz
    have hl := lv_entry (av.map (zV X.2.2.2.1)) (n := M.2.2.1) (by rw [zlg_len]; exact hlen)
    rw [zlv_map] at hl
    have hpre := atoms_spec (ws := zws M) B.pre
    have hT : ∀ x ∈ c.exceptionTable.toList, False := by
      have h7 := BodyLoose.noHandlers B (hpre _ List.mem_cons_self)
      intro x hx
      rw [Array.isEmpty_iff.mp h7] at hx
      cases hx
    have hW := hJ p e s m _ below meth c _ s.heap [] _ ⟨B.exec, B.bytes, hml, B.returns, B.notSynchronized, fun w hw => hpre w (List.mem_cons_of_mem _ hw), findClass_of_methodNamed B.named, (name_of_methodNamed B.named B.method).1, ⟨fun _ => hT, B.named⟩, hK, hst, fun q h => Or.inr h⟩
      ⟨hP, hD0.self, va_S.rf, fun hf => nomatch hf⟩ hl
    rw [← hh0] at hW
    obtain ⟨t, a1, o, b1, b2, b3⟩ := hW s₁ rfl (Stand.of_body B)
    rw [List.map_nil, ← lg_entry_eq] at a1
    rw [hh0] at b3
    exact ⟨t, o, a1, b1, b2, b3⟩
/-- the walk may be looked at as beginning here -/
theorem zRebase {p : Program} {l : Launch} {e : Env} {R R' : Room} {s : State} {m : MethodId} {args : Array Value} {below : List Frame} {meth : Method} {c : Code} {T : State} {locs : List Loc} {k j : Nat} (Y : Stand p l e R s m args below meth c T locs k j)
    (hf : R'.frames ≤ R.frames) (hl : R'.locals ≤ R.locals) (hc : k + R'.cells ≤ R.cells) (hs : j + R'.slots ≤ R.slots) : Stand p l e R' ((T.setVm s.vm).setFrames (.invoking m args :: below)) m args below meth c T [] 0 0 := by
  obtain ⟨g₀, hfr⟩ := Y.frames_eq
  have hcur : T.cur < T.threads.size := State.cur_lt_of_frames hfr
  have hF : ((T.setVm s.vm).setFrames (.invoking m args :: below)).frames = .invoking m args :: below := State.frames_setFrames _ hcur
  have hlim : e.platform.stackLimits ((T.setVm s.vm).setFrames (.invoking m args :: below)).me = e.platform.stackLimits s.me := by
    rw [State.stackLimits_setFrames]; exact Y.limits
  have hby : ((T.setVm s.vm).setFrames (.invoking m args :: below)).me.stackBytes = s.me.stackBytes := by
    rw [State.stackBytes_setFrames]; exact Y.bytes
  have hroom : ((T.setVm s.vm).setFrames (.invoking m args :: below)).hasRoom e.platform R' = true := by
    have h := Y.room
    have hU : ((T.setVm s.vm).setFrames (.invoking m args :: below)).localsInUse = s.localsInUse := by
      rw [State.localsInUse_invoking hF (meth := meth) (c := c) Y.method Y.code, State.localsInUse_invoking Y.frames Y.method Y.code]
    have q1 := Y.heapSize
    have q2 := Y.used
    simp only [State.hasRoom, Bool.and_eq_true, decide_eq_true_eq] at h ⊢
    obtain ⟨⟨⟨⟨h1, h2, h3, h4, h5, h6⟩, h7⟩, h8⟩, h9⟩ := h
    rw [Y.frames, List.length_cons] at h2 h3
    rw [hU, hF, hlim, hby, List.length_cons]
    refine ⟨⟨⟨⟨by omega, by omega, by omega, by omega, by omega, h6⟩, ?_⟩, ?_⟩, Y.book⟩
    · show T.heap.size + R'.cells ≤ e.platform.maxCells
      omega
    · show T.slotsUsed + R'.slots ≤ e.platform.maxSlots
      omega
  obtain ⟨t, ht, -⟩ := State.frames_cons hF
  have hsame : ((T.setVm s.vm).setFrames (.invoking m args :: below)).sameButNew (T.setVm s.vm) [] 0 0 := by
    have h1 := (State.sameButNew.refl ((T.setVm s.vm).setFrames (.invoking m args :: below)) ht).setFrames (T.setVm s.vm).frames (State.cur_lt_of_frames hF)
    obtain ⟨t2, ht2, -⟩ := State.frames_cons (show (T.setVm s.vm).frames = _ from hfr)
    rw [State.setFrames_setFrames, State.setFrames_self ht2] at h1
    exact h1
  exact ⟨Y.admits, Y.cas, Y.clock, hF, hroom, Y.hears, Y.method, Y.code, Y.here, Y.tail, Y.warmed, (Y.limits.trans hlim.symm), (Y.bytes.trans hby.symm), hsame⟩
end
section
/-! the words that a throw reads -/
def zUp : List String := ["java/lang/RuntimeException", "java/lang/Exception"]
def zThW (w : Cond) : Bool := (w.onTables && ((decide (w ∈ tables_1) && (goodWord w || zFw w)) || (decide (w ∈ k2_sels lw_privs) && goodWord w))) || decide (w = .laysStatic zTn2 "UNASSIGNED_STACK" zSt2) || decide (w = .laysStatic zTn2 "SUPPRESSED_SENTINEL" zLi2) || decide (w = .isRef (.static zTn2 "UNASSIGNED_STACK" zSt2)) || decide (w = .isRef (.static zTn2 "SUPPRESSED_SENTINEL" zLi2))
theorem zThW_word {l : Launch} {A : Nat → Prop} {s s' : State} {args : Array Value} {w : Cond} (h : zThW w = true) (hv : s.vm = s'.vm) (hw : ∀ w ∈ zWA, w.before args s = true) (hT : zThb l A s' s'.heap) : w.before args s' = true := by
  obtain ⟨-, h1, -, h3, h4, h5, h6⟩ := hT
  simp only [zThW, Bool.or_eq_true, Bool.and_eq_true, decide_eq_true_eq] at h
  rcases h with (((⟨ho, h⟩ | h) | h) | h) | h
  · rcases h with ⟨hm, hg | hg⟩ | ⟨hm, hg⟩
    · exact va_tabs ho hv (hw w (List.mem_filter.mpr ⟨List.mem_append_right _ hm, hg⟩))
    · exact va_Nw.use ho (h1 w (List.mem_filter.mpr ⟨hm, hg⟩))
    · exact va_tabs ho hv (hw w (List.mem_filter.mpr ⟨List.mem_append_left _ hm, hg⟩))
  · rw [h]; exact zLs_word h5
  · rw [h]; exact zLs_word h6
  · rw [h]; exact zZq_word h3
  · rw [h]; exact zZq_word h4
/-- what making an E and throwing it comes to -/
def zCT (ic : Nat) (E : String) : Prop := ∀ (p : Program) (l : Launch) (e : Env) (d : Nat) (s : State) (m : MethodId) (args : Array Value) (below : List Frame) (meth : Method) (c : Code) (T : State) (pc : Nat) (ls : Array Slot) (sa a : Nat) (cX : ClassId) (kX : Class),
  Stand p l e (zR d 1 6) s m args below meth c T [] 1 6 → 3 ≤ d → p.tables.exec = Jvm.exec → e.platform.stackTraces = false → s.vm.findClass "TableMachine" = some m.cls → (∀ w, zThW w = true → w.before args s = true) →
  s.vm.findClass E = some cX → s.vm.classes[cX]? = some kX → T.heap[a]? = some (freshCell cX kX) → s.heap.size ≤ a → ls.size = c.maxLocals → decode c.code pc = .ok (.invokespecial ic, 3) → decode c.code (pc + 3) = .ok (.athrow, 1) → (∀ x ∈ c.exceptionTable.toList, False) → meth.locks = false →
  ∃ U : State, Steps p.tables e below (T.setTop (F0 m pc ls [.ref sa, .ref a, .ref a])) U ∧ U.status = .running ∧ Ended U below (.threw a) ∧ s.WarmedH U.vm ∧ s.sameButNew ({ U with vm := s.vm } : State) [] 1 6 ∧ ∃ ce : Cell, U.heap[a]? = some ce ∧ ce.vm = .none ∧ s.vm.findClass E = some ce.cls
theorem zCT_lib {ic : Nat} {E : String} (hf : Bundle.fit E = true) (hw : (Bundle.ownAtoms "TableMachine" ic E zUp).all zThW = true) : zCT ic E := by
  intro p l e d s m args below meth c T pc ls sa a cX kX Y hd hexec htr hown hwd hfX hkX hcell hnew hls d6 d9 hx hlk
  obtain ⟨U, hsteps, hrun, hend, hWm, hsame, ce, hce, K⟩ := Y.ctorThrowS hexec htr (own := "TableMachine") (cls := E) (names := zUp) (ic := ic) hown hf (by decide +kernel)
    (fun w hwm => hwd w (List.all_eq_true.mp hw w hwm)) (fun y hy => by cases hy) hfX hkX (a := a) hcell hnew (msg := .ref sa) rfl
    (g := F0 m pc ls [.ref sa, .ref a, .ref a]) rfl hls rfl rfl (rest := []) rfl d6 d9 (fun x h => (hx x h).elim) (by simp [zR, zUp]; omega) (by simp [zR, zUp, Value.category, JFrame.monitorRoom]; omega) hlk
  exact ⟨U, hsteps, hrun, hend, hWm, hsame, ce, hce, K.vm, K.cls⟩
/-- an exception that is made at a place: its class, its links -/
def zTx (ix ic : Nat) (E : String) : Prop := zThW (.classLink "TableMachine" ix E) = true ∧ zThW (.instantiable E 6) = true ∧ zThW (.initialized E) = true ∧ zCT ic E
set_option maxRecDepth 100000 in
theorem zTx_A : zTx 47 51 "java/lang/IllegalArgumentException" := ⟨by decide +kernel, by decide +kernel, by decide +kernel, zCT_lib (by decide +kernel) (by decide +kernel)⟩
set_option maxRecDepth 100000 in
theorem zTx_S : zTx 60 64 "java/lang/IllegalStateException" := ⟨by decide +kernel, by decide +kernel, by decide +kernel, zCT_lib (by decide +kernel) (by decide +kernel)⟩
set_option maxRecDepth 100000 in
theorem zTx_I : zTx 161 165 "java/lang/IndexOutOfBoundsException" := ⟨by decide +kernel, by decide +kernel, by decide +kernel, zCT_lib (by decide +kernel) (by decide +kernel)⟩
end
section
theorem zKeep {s t : State} {cells slots : Nat} (h : s.sameButNew t [] cells slots) {q : Nat} (hq : q < s.heap.size) : t.heap[q]? = s.heap[q]? := by
  obtain ⟨-, -, -, -, -, h⟩ := h
  obtain ⟨c', h1, h2, h3, h4⟩ := h q _ (Array.getElem?_eq_getElem hq)
  have h5 : c'.slots = (s.heap[q]).slots := by
    apply Array.ext_getElem?
    intro i
    exact h4 i (by simp)
  rw [h1, h2, h5, Array.getElem?_eq_getElem hq]
section ZTR
variable {X : zX} {M : zM} {h : zH} {n pc : Nat} {lv : List (Nat × Value)}
theorem z_throw {d ix ic si : Nat} {E tx : String} (hM : M.1.cls = "TableMachine") (hd : 3 ≤ d) (hk : zTx ix ic E) (hs : ("TableMachine", si, tx) ∈ zStr) (d0 : decode M.2.1 pc = .ok (.new ix, 3)) (d3 : decode M.2.1 (pc + 3) = .ok (.dup, 1)) (d4 : decode M.2.1 (pc + 4) = .ok (.ldc si, 2)) (d6 : decode M.2.1 (pc + 6) = .ok (.invokespecial ic, 3)) (d9 : decode M.2.1 (pc + 9) = .ok (.athrow, 1)) : zJ X (zR d 1 6) M (zThr X 1 6 E h n) false 0 0 h n pc lv [] := by
  intro p e s m args below meth c A H locs ls hB hDD hL T hT Y
  subst hT
  have Y' := zRebase (R' := zR d 1 6) Y (Nat.le_refl _) (Nat.le_refl _) (by simp) (by simp)
  generalize hs' : (T.setVm s.vm).setFrames (.invoking m args :: below) = s' at Y'
  have hv : s.vm = s'.vm := by rw [← hs']; rfl
  have hh : s'.heap = T.heap := by rw [← hs']; rfl
  have hTb : zThb X.1 A s' s'.heap := by
    rw [hh]
    have h1 : zThb X.1 A s s.heap := hB.stat.2.2.2.2
    have h2 := zThb_move (A1 := A) (U := s) (State.WarmedH.refl s) (fun _ z => z) hDD.2.2.1 h1
    exact zThb_same hv h2
  have hw : ∀ w, zThW w = true → w.before args s' = true := fun w h => zThW_word h hv hB.words hTb
  have hown : s'.vm.findClass "TableMachine" = some m.cls := by rw [← hv, ← hM]; exact hB.own
  obtain ⟨sa, hsa⟩ := hTb.2.2.1 _ hs
  have htr : e.platform.stackTraces = false := by rw [Y.admits.platform]; exact hTb.1.1
  have hW : W p X.1 e (zR d 1 6) s' m args below meth c T.heap [] 0 0 (fun t => ∃ (q : Addr) (ce : Cell), t.status = .running ∧ Ended t below (.threw q) ∧ t.heap[q]? = some ce ∧ ce.vm = .none ∧ s'.vm.findClass E = some ce.cls ∧ s'.WarmedH t.vm ∧ s'.sameButNew ({ t with vm := s'.vm } : State) [] 1 6) (F0 m pc ls []) := by
    refine W.newc hB.1 hB.2.1 hown (hw _ hk.1) (hw _ hk.2.1) (hw _ hk.2.2.1) rfl d0 (by simp [zR]) (by simp [zR]) (fun cX kX hfX hkX _ hsz => ?_)
    refine lv_dup hB.1 hB.2.1 d3 rfl ?_
    refine va_ldcS hB.1 hB.2.1 hown hsa d4 ?_
    intro T₂ hT₂ X₂
    obtain ⟨U, hsteps, hrun, hend, hWm, hsame, ce, hce, k1, k2⟩ := hk.2.2.2 p X.1 e d s' m args below meth c T₂ (pc + 6) ls sa T.heap.size cX kX X₂ hd hB.1 htr hown hw hfX hkX (by rw [hT₂]; exact Array.getElem?_push_size) (by rw [hh]; exact Nat.le_refl _) (by rw [hB.2.2.1]; exact hL.1) (by rw [hB.2.1]; exact d6) (by rw [hB.2.1]; exact d9) (hB.noEx (by rw [hM]; decide)) hB.2.2.2.2.1
    exact ⟨U, hsteps, _, ce, hrun, hend, hce, k1, k2, hWm, hsame⟩
  obtain ⟨t, a1, q, ce, b1, b2, b3, b4, b5, b6, b7⟩ := hW T rfl Y'
  have hvt : s'.vm = s.vm := hv.symm
  have hkeep : ∀ q : Nat, q < T.heap.size → t.heap[q]? = T.heap[q]? := by
    intro q hq
    have := zKeep b7 (q := q) (by rw [hh]; exact hq)
    rw [hh] at this
    exact this
  have hsz : T.heap.size ≤ t.heap.size := by
    have := b7.2.1
    rw [hh] at this
    exact this
  have hsame : s.sameButNew ({ t with vm := s.vm } : State) (locs ++ []) (0 + 1) (0 + 6) := by
    have h1 := Y.same.setFrames (.invoking m args :: below) Y.cur
    rw [hs'] at h1
    rw [hvt] at b7
    exact h1.trans b7
  refine ⟨t, a1, .threw q, b1, b2, q, ce, rfl, b3, b4, by rw [hv]; exact b5, ⟨?_, hDD.2.1, ⟨Nat.le_trans hDD.2.2.1.1 hsz, fun x hx hA => ?_⟩, fun hf => nomatch hf⟩, ?_, locs ++ [], hsame, ?_⟩
  · exact hDD.1.kept (fun k q0 hq0 => hkeep _ (hDD.1 k q0 hq0).lt)
  · exact (hkeep x (Nat.lt_of_lt_of_le hx hDD.2.2.1.1)).trans (hDD.2.2.1.2.1 x hx hA)
  · exact (show s.WarmedH s'.vm by rw [hvt]; exact State.WarmedH.refl s).trans b6
  · intro z hz
    exact hDD.2.2.1.2.2 z (by simpa using hz)
end ZTR
end
section
/-! NoSuchElementException: its constructor names its superclass's under another index than the library's chain has -/
def zNe : String := "java/util/NoSuchElementException"
def zNb : ByteArray := ⟨#[0x2a, 0x2b, 0xb7, 0x00, 0x0d, 0xb1]⟩
def zNw4 : List Cond := [.methodLink "TableMachine" 121 (Bundle.initS zNe), .instantiable zNe 6, .selects zNe Bundle.tFill0 Bundle.tFill0, .selects zNe Bundle.tFill Bundle.tFill,
   .lays zNe zTn2 "cause" "Ljava/lang/Throwable;", .lays zNe zTn2 "stackTrace" zSt2, .lays zNe zTn2 "suppressedExceptions" zLi2, .lays zNe zTn2 "detailMessage" "Ljava/lang/String;", .lays zNe zTn2 "backtrace" "Ljava/lang/Object;",
   .isRef (.static zTn2 "UNASSIGNED_STACK" zSt2), .isRef (.static zTn2 "SUPPRESSED_SENTINEL" zLi2), .fieldLink zTn2 198 zTn2 "backtrace" "Ljava/lang/Object;", .lays zTn2 zTn2 "backtrace" "Ljava/lang/Object;"]
set_option maxRecDepth 100000 in
theorem zNw_1 : Bundle.throwableAtoms.all zThW = true := by decide +kernel
set_option maxRecDepth 100000 in
theorem zNw_2 : Bundle.throwableSAtoms.all zThW = true := by decide +kernel
set_option maxRecDepth 100000 in
theorem zNw_3 : (Bundle.passSAtoms zNe "java/lang/RuntimeException" 13 zNb).all zThW = true := by decide +kernel
set_option maxRecDepth 100000 in
theorem zNw_5 : (Bundle.chainSAtoms "java/lang/RuntimeException" ["java/lang/Exception"]).all zThW = true := by decide +kernel
set_option maxRecDepth 100000 in
theorem zNw_4 : zNw4.all zThW = true := by decide +kernel
theorem zNb_0 : decode zNb 0 = .ok (.aload_n 0, 1) := by decide +kernel
theorem zNb_1 : decode zNb 1 = .ok (.aload_n 1, 1) := by decide +kernel
theorem zNb_2 : decode zNb 2 = .ok (.invokespecial 13, 3) := by decide +kernel
theorem zNb_5 : decode zNb 5 = .ok (.return_, 1) := by decide +kernel
end
section
theorem zFillSel {l : Launch} {e : Env} {s : State} {args : Array Value} (ha : l.admits e) {C : String} {cX : ClassId} (hC : s.vm.findClass C = some cX) {x : MethodName} {r : MethodId} (hx : x.cls ≠ "java/lang/invoke/MethodHandle" ∧ x.cls ≠ "java/lang/invoke/VarHandle") (hr : s.methodNamed? x = some r) (h : (Cond.selects C x x).before args s = true) : selectMethod e.platform s.vm cX r = .method r := by
  obtain ⟨c2, r2, m2, q1, q2, q3, q4, -⟩ := Cond.selects_spec h
  cases Option.some.inj (q1.symm.trans hC)
  cases Option.some.inj (q3.symm.trans hr)
  cases Option.some.inj (q2.symm.trans (State.methodFound?_of_named hr hx))
  rw [Launch.admits_selectMethod ha]
  exact q4
set_option maxHeartbeats 1000000 in
theorem zCT_N : zCT 121 zNe := by
  intro p l e d s m args below meth c T pc ls sa a cX kX Y hd hexec htr hown hwd hfX hkX hcell hnew hls d6 d9 hx hlk
  have hpl : e.platform.magicAccessors = ({} : Platform).magicAccessors := by rw [Y.admits.platform]
  have w4 : ∀ {w : Cond} (i : Nat), zNw4[i]? = some w → w.before args s = true := fun {w} i hi => hwd w (List.all_eq_true.mp zNw_4 w (List.mem_of_getElem? hi))
  have w3 : ∀ w ∈ Bundle.passSAtoms zNe "java/lang/RuntimeException" 13 zNb, w.before args s = true := fun w h => hwd w (List.all_eq_true.mp zNw_3 w h)
  obtain ⟨K, Z0, L, -, Ti⟩ := ThrowableC.of_atoms (args := args) (s := s) (pl := e.platform) (by rw [Y.admits.platform]) (by rw [Y.admits.platform]) hpl (fun w h => hwd w (List.all_eq_true.mp zNw_1 w h))
  obtain ⟨Z, Mm, LZ, LM, hnZ⟩ := Init0T.ofS_atoms (args := args) hpl L Ti (fun w h => hwd w (List.all_eq_true.mp zNw_2 w h))
  obtain ⟨P0, L0, hm0, hs0⟩ := PassC.ofS_atoms (args := args) (s := s) hpl (X := zNe) (Y := "java/lang/RuntimeException") (by decide +kernel) (by decide +kernel) zNb_0 zNb_1 zNb_2 zNb_5 w3
  obtain ⟨P1, Ps, hlen, L1, hL, hm1, hl1, hpass⟩ := Bundle.chainS (args := args) hpl hnZ ["java/lang/Exception"] "java/lang/RuntimeException" (by decide +kernel) (by decide +kernel) (fun w h => hwd w (List.all_eq_true.mp zNw_5 w h))
  have hlink : PassesOn (Z.m K.toThrowableT) ((P0 :: P1 :: Ps).map (·.toPassT)) := ⟨Option.some.inj (hs0.symm.trans hm1), hl1, hpass⟩
  have hfd : s.vm.findClass zNe = some P0.m.cls := findClass_of_methodNamed hm0
  cases Option.some.inj (hfX.symm.trans hfd)
  obtain ⟨c1, kX', hc1, hk, hord, -, -, hn6⟩ := Cond.instantiable_spec (w4 (w := .instantiable zNe 6) 1 rfl)
  cases Option.some.inj (hc1.symm.trans hfd)
  cases Option.some.inj (hkX.symm.trans hk)
  obtain ⟨cS, hcS, hiS⟩ := Ti.statics
  obtain ⟨u0, hu0⟩ := Cond.staticRefV Ti.unassigned L.unassignedStatic L.statics hcS hiS (w4 (w := .isRef (.static zTn2 "UNASSIGNED_STACK" zSt2)) 9 rfl)
  obtain ⟨sn, hsn⟩ := Cond.staticRefV Ti.sentinel L.sentinelStatic L.statics hcS hiS (w4 (w := .isRef (.static zTn2 "SUPPRESSED_SENTINEL" zLi2)) 10 rfl)
  have hlt : K.aS < s.heap.size := (Array.getElem?_eq_some_iff.mp hcS).1
  have hcST : T.heap[K.aS]? = some cS := (zKeep Y.same hlt).trans hcS
  have hne : K.aS ≠ a := Nat.ne_of_lt (Nat.lt_of_lt_of_le hlt hnew)
  have hun : cS.vm ≠ .unknown := by
    intro hu
    rw [hu] at hiS
    cases hiS
  obtain ⟨iM, hfM⟩ := Ti.msg
  obtain ⟨ci, ii, fB, hb1, hb2, hb3, hb4, -, hnB, htB, hfB⟩ := Cond.ownField (t := .object "java/lang/Object") Ti.found L.cls (by decide +kernel) (w4 (w := .fieldLink zTn2 198 zTn2 "backtrace" "Ljava/lang/Object;") 11 rfl) (w4 (w := .lays zTn2 zTn2 "backtrace" "Ljava/lang/Object;") 12 rfl) e.platform hpl
  obtain ⟨tyC, dC, eC, nC⟩ := Cond.laysAt hfd hk Ti.cause (w4 (w := .lays zNe zTn2 "cause" "Ljava/lang/Throwable;") 4 rfl)
  obtain ⟨tyS, dS, eS, nS⟩ := Cond.laysAt hfd hk Ti.stack (w4 (w := .lays zNe zTn2 "stackTrace" zSt2) 5 rfl)
  obtain ⟨tyP, dP, eP, nP⟩ := Cond.laysAt hfd hk Ti.supp (w4 (w := .lays zNe zTn2 "suppressedExceptions" zLi2) 6 rfl)
  obtain ⟨tyM, dM, eM, nM⟩ := Cond.laysAt hfd hk hfM (w4 (w := .lays zNe zTn2 "detailMessage" "Ljava/lang/String;") 7 rfl)
  obtain ⟨tyB, dB, eB, nB⟩ := Cond.laysAt hfd hk hfB (w4 (w := .lays zNe zTn2 "backtrace" "Ljava/lang/Object;") 8 rfl)
  have bC := Cond.laysApart eB eC nB nC (by rw [hnB, Ti.causeName]; decide)
  have bS := Cond.laysApart eB eS nB nS (by rw [hnB, Ti.stackName]; decide)
  have bP := Cond.laysApart eB eP nB nP (by rw [hnB, Ti.suppName]; decide)
  have hdef : (freshCell P0.m.cls kX).slots[fB.slot]? = some (defaultValue (.object "java/lang/Object")) := by
    have := fresh_default (c := P0.m.cls) tyB
    rw [htB] at this
    exact this
  have hskip : SkipFacts K e.platform s (fun u => u) u0 ((preparedCellV K.toThrowableT (freshCell P0.m.cls kX) a u0 sn).withEntry T.cur) :=
    ⟨{ ci198 := ci, i198 := ii, fBack := fB }, ⟨hb1, hb2, hb3, hb4⟩, by
      simpa [preparedCellV, Cell.setSlot, Cell.withEntry, Array.getElem?_setIfInBounds, bC, bS, bP, bC.symm, bS.symm, bP.symm, defaultValue] using hdef, fun _ _ => rfl⟩
  obtain ⟨tm, -, -, -, vm1, hnC, -, -, -, -, -, -, -, hW1, st1⟩ := Steps.initColdS (tb := p.tables) (e := e) (below := below) (s := s) (U := T) Y.here hexec Y.warmed hpl hown (t := Bundle.initS zNe) rfl rfl (by decide +kernel)
    (w4 (w := .methodLink "TableMachine" 121 (Bundle.initS zNe)) 0 rfl) (w3 _ List.mem_cons_self) (bytes := zNb) (maxL := 2) (w3 _ (List.mem_cons_of_mem _ List.mem_cons_self)) (f := F0 m pc ls [.ref sa, .ref a, .ref a]) rfl (a := a) (msg := .ref sa) (rest := [.ref a]) rfl d6
  cases Option.some.inj (hnC.symm.trans hm0)
  obtain ⟨vm2, Y2, st2⟩ := (Y.noted hW1).ctorMessageOffV hexec (g := F0 m pc ls [.ref a]) rfl hls K L Z LZ Mm LM (P0 :: P1 :: Ps)
    (fun P hP => by
      rcases List.mem_cons.mp hP with rfl | hP
      · exact L0
      · rcases List.mem_cons.mp hP with rfl | hP
        · exact L1
        · exact hL P hP) hlink (u0 := u0) (sen := sn) (self := a) (msg := .ref sa) rfl (cell := freshCell P0.m.cls kX) (cellS := cS)
    hcell (fun _ => by simp) (by simp) rfl rfl (zFillSel Y.admits hfd (by decide +kernel) Ti.fill0 (w4 (w := .selects zNe Bundle.tFill0 Bundle.tFill0) 2 rfl)) (zFillSel Y.admits hfd (by decide +kernel) Ti.fill (w4 (w := .selects zNe Bundle.tFill Bundle.tFill) 3 rfl)) hcST hne hun hu0 hsn
    (Takes.of_laid hk hord tyC (by rw [Ti.causeType]; rfl)) (Takes.of_laid hk hord tyS (by rw [Ti.stackType]; exact fits_refV_array _ u0)) (Takes.of_laid hk hord tyP (by rw [Ti.suppType]; exact fits_refV_object _ sn))
    (Takes.of_laid hk hord tyM (by rw [Ti.msgType]; exact fits_refV_object _ ⟨.ref sa, rfl⟩)) Ti.objLocals hskip htr [] d6
    (by simp [hlen, zR]; omega) (by simp [hlen, zR, Value.category, JFrame.monitorRoom]; omega)
  obtain ⟨hwalk, hrun, hended, hWU, hsame⟩ := Y2.athrowLeaves hexec (g := F0 m (pc + 3) ls [.ref a]) rfl rfl rfl (fun x h => (hx x h).elim) (a := a) (rest := []) rfl d9 hlk
  refine ⟨_, st1 _ (fun acts => ?_), hrun, hended, hWU, hsame.weaken (fun y hy hl => ?_) (Nat.le_refl _) (Nat.le_refl _), _, heapAt_setCell_self (s := (T.setVm vm1).setVm vm2) (plainBareV K.toThrowableT (freshCell P0.m.cls kX) a u0 sn (.ref sa)) (Array.getElem?_eq_some_iff.mp hcell).1, rfl, hfd⟩
  · rw [doInvoke_state]
    exact st2 _ hwalk
  · exfalso
    have hb : y.base = a := by
      simp only [List.nil_append, List.mem_cons, List.not_mem_nil, or_false] at hy
      rcases hy with rfl | rfl | rfl | rfl | rfl <;> rfl
    rw [hb] at hl
    exact Nat.not_lt.mpr hnew hl
theorem zTx_E : zTx 117 121 "java/util/NoSuchElementException" := ⟨by decide +kernel, by decide +kernel, by decide +kernel, zCT_N⟩
end
section
/-! a call that throws -/
section ZTC
variable {X : zX} {R : Room} {M M' : zM} {h : zH} {n pc k j d' ix na b ci N : Nat} {lv : List (Nat × Value)} {st av fs : List Value} {Tt : u_T} {E : String}
variable {p : Program} {e : Env} {s : State} {m : MethodId} {args : Array Value} {below : List Frame} {meth : Method} {c : Code} {A : Nat → Prop} {locs : List Loc} {ls : Array Slot} {T : State}
/-- the callee has thrown: its exception lies over the caller's frame -/
theorem zInto (hB : zB X M p s m args meth c A) (hDD : zD X A s false k h n T.heap locs) (Y : Stand p X.1 e R s m args below meth c T locs k j) (hls : ls.size = c.maxLocals)
    (hd : decode M.2.1 pc = .ok (.invokevirtual ix, 3)) (g : zGv M.1.cls ix M' na) (hC : zTC X d' M' 1 6 (.ref b :: av) h n E) (hb : b < n) (hc : h b = .inr (ci, fs)) (hci : zCl[ci]? = some (M'.1.cls, Tt, N)) (hR : zRm R d' 1 6 k j) (hna : av.length = na) (hsum : (st.map fun v => v.category).sum ≤ 8) :
    ∃ (q : Addr) (T' : State) (L : List Loc) (ce : Cell), Stand p X.1 e R s m args below meth c T' (locs ++ L) (k + 1) (j + 6) ∧ Steps p.tables e below (T.setTop (F0 m pc ls ((av.reverse ++ .ref b :: st).map (zV X.2.2.2.1)))) ((T'.setTop (F0 m pc ls (st.map (zV X.2.2.2.1)))).pushFrame (.throwing q)) ∧
      T'.heap[q]? = some ce ∧ ce.vm = .none ∧ s.vm.findClass E = some ce.cls ∧ zD X A s false (k + 1) h n T'.heap (locs ++ L) := by
  have hsz : T.heap.size ≤ s.heap.size + k := by have h9 := Y.heapSize; omega
  obtain ⟨⟨g1, g2, g3, g4⟩, g5, g6, g7⟩ := g
  obtain ⟨r1, r2, r3, r4⟩ := hR
  obtain ⟨cellB, hcB, hsB, hfB⟩ := va_recv hB.kinds hDD.1 hci (q0 := b) (a := X.2.2.2.1 b) (fs := fs.map (zV X.2.2.2.1)) (by rw [zW_get hb, hc]; rfl)
  obtain ⟨mk, methM, hnM, hmM, hstM, habM⟩ := Cond.instanceMethod_spec (hB.word g6)
  obtain ⟨methM', cM, hmM', hcM, -, hlM, -, -, -, hsM⟩ := Cond.code_spec hnM (hB.word g1)
  cases hmM.symm.trans hmM'
  obtain ⟨c2, r2', m2, q1, q2, q3, q4, kP, hkP, hkPi⟩ := Cond.selects_spec (hB.word g7)
  cases Option.some.inj (hfB.symm.trans q1)
  cases Option.some.inj ((State.methodFound?_of_named hnM ⟨g3.1, g3.2.1⟩).symm.trans q2)
  cases Option.some.inj (hnM.symm.trans q3)
  have hinP : kP.init = .initialized := Cond.initialized_spec (findClass_of_methodNamed hnM) hkP (hB.word g2)
  have hlen : (av.map (zV X.2.2.2.1)).length = methM.sig.parameters.length := by
    have h1 := g3.2.2
    rw [hsM] at h1
    rw [List.length_map, hna]
    exact (Option.some.inj h1).symm
  obtain ⟨vm1, Y1, st1⟩ := Y.invokevirtual hB.1 hB.own (hB.word g5) hnM hmM hstM hkP hkPi ⟨g3.1, g3.2.1⟩ (a := X.2.2.2.1 b) (cell := cellB) hcB
    (fun z hz => by rw [hz] at hsB; cases hsB) (by rw [Launch.admits_selectMethod Y.admits]; exact q4) hmM habM hkP hkPi (g := F0 m pc ls ((av.reverse ++ .ref b :: st).map (zV X.2.2.2.1))) rfl (argsL := av.map (zV X.2.2.2.1)) (rest := st.map (zV X.2.2.2.1)) hlen (by simp [zV]) (by rw [hB.2.1]; exact hd)
  generalize hU : T.setVm vm1 = U at Y1 st1
  have hUh : U.heap = T.heap := by rw [← hU]; rfl
  have hdg : decode c.code pc = .ok (.invokevirtual ix, 3) := by rw [hB.2.1]; exact hd
  have hat : At U (F0 m pc ls (st.map (zV X.2.2.2.1))).method c below := Y1.here
  have hWU : s.WarmedH U.vm := Y1.warmed
  obtain ⟨kP1, hkP1, heP1⟩ := hWU.alike.2.2 _ _ hkP
  have hws : ∀ w ∈ zws M', ∀ a' : Array Value, w.before a' U = true := by
    intro w hw a'
    exact pay_in hB.words (zGood (zGood' g1)) w hw a' U hWU
  have happ : (headSpec (zws M') (zR d' 1 6)).appliesLoose M'.1 e.platform (U.calling (F0 m pc ls (st.map (zV X.2.2.2.1))) mk (.ref (X.2.2.2.1 b) :: av.map (zV X.2.2.2.1)).toArray) = true :=
    Spec.appliesLoose_calling (g := F0 m pc ls (st.map (zV X.2.2.2.1))) hat hdg
      (show U.methodNamed? M'.1 = some mk by
        have q : (s.setVm U.vm).methodNamed? M'.1 = some mk := by rw [State.methodNamed?_setVm hWU.alike]; exact hnM
        exact q)
      hkP1 (by rw [heP1]; exact hinP)
      (Y1.room_calling (g := F0 m pc ls (st.map (zV X.2.2.2.1))) (R' := zR d' 1 6) hls (show U.vm.method? mk = some methM by rw [hWU.alike.method?]; exact hmM) hcM (by show d' + 3 + 1 ≤ R.frames; omega) (by rw [hlM]; have h0 := lv_room (m := m) (pc := pc) (ls := ls) (rest := st.map (zV X.2.2.2.1)) (zst_sum (ad := X.2.2.2.1) hsum); show 2 * (F0 m pc ls (st.map (zV X.2.2.2.1))).monitorRoom + ((st.map (zV X.2.2.2.1)).map fun v => v.category).sum + (M'.2.2.1 + 11) + 33 * d' ≤ R.locals; omega) r3 r4)
      (atoms_intro fun w hw => hws w hw _)
  obtain ⟨mid, hmid⟩ := hat.above
  have hfr : (U.setTop (F0 m pc ls (st.map (zV X.2.2.2.1)))).frames = (.java (F0 m pc ls (st.map (zV X.2.2.2.1))) :: mid) ++ below := by
    rw [State.frames_setTop' _ hat.top, hmid]
    rfl
  have hpr := zc_pre hDD hB hsz (.ref b :: av)
  obtain ⟨o, t, hsteps, hrun, hend, hq⟩ := Steps.callFree (hC T.heap.size) p Y1.admits Y1.cas Y1.clock (acts := []) hfr happ (hpr.1 _ U (F0 m pc ls (st.map (zV X.2.2.2.1))) mk (hpr.2 U hUh hWU)) trivial
  obtain ⟨q, ce, ho, h1, h2, h3, hF, hWt, L, hsame, hL⟩ := hq
  subst ho
  rw [State.frames_setTop' _ hat.top, Y1.tail] at hend
  obtain ⟨T', Y2, hW2, hs2, ht⟩ := Y1.outOfThrown (g := F0 m pc ls (st.map (zV X.2.2.2.1))) rfl hend hWt hsame
  have hht : t.heap = T'.heap := by rw [ht]; rfl
  have hin := zc_in hDD hB
  have hFc : (U.calling (F0 m pc ls (st.map (zV X.2.2.2.1))) mk (.ref (X.2.2.2.1 b) :: av.map (zV X.2.2.2.1)).toArray).heap = T.heap := hUh
  refine ⟨q, T', L, ce, Y2, st1 _ (fun acts => ?_), by rw [← hht]; exact h1, h2, ?_, ?_⟩
  · rw [doInvoke_state] at hsteps ⊢
    rw [← ht]
    exact hsteps
  · have h4 : U.vm.findClass E = some ce.cls := h3
    rw [← hWU.alike.findClass]
    exact h4
  · obtain ⟨f1, f2, f3, f4⟩ := hF
    rw [hht] at f1
    exact ⟨f1, hDD.2.1, zc_keep (t := t) hB hDD hFc hht.symm hL f3, fun hf => nomatch hf⟩
/-- the caller throws what the callee threw -/
theorem z_callT {d : Nat} {stk : List Value} (hM : M.1.cls = "TableMachine") (hd : decode M.2.1 pc = .ok (.invokevirtual ix, 3)) (g : zGv M.1.cls ix M' na) (hC : zTC X d' M' 1 6 (.ref b :: av) h n E) (hb : b < n) (hc : h b = .inr (ci, fs)) (hci : zCl[ci]? = some (M'.1.cls, Tt, N)) (hstk : av.reverse ++ .ref b :: st = stk) (hR : zRm (zR d 1 6) d' 1 6 0 0) (hna : av.length = na) (hsum : (st.map fun v => v.category).sum ≤ 8) :
    zJ X (zR d 1 6) M (zThr X 1 6 E h n) false 0 0 h n pc lv stk := by
  intro p e s m args below meth c A H locs ls hB hDD hL T hT Y
  subst hT
  subst hstk
  obtain ⟨q, T', L, ce, Y2, st1, h1, h2, h3, hD2⟩ := zInto hB hDD Y (ls := ls) (by rw [hB.2.2.1]; exact hL.1) hd g hC hb hc hci hR hna hsum
  obtain ⟨l1, l2, l3, l4, l5⟩ := Y2.leaveThrown q (g := F0 m pc ls (st.map (zV X.2.2.2.1))) rfl rfl rfl (fun x hx => (hB.noEx (by rw [hM]; decide) x hx).elim) hB.2.2.2.2.1
  refine ⟨_, st1.trans l1, .threw q, l2, l3, q, ce, rfl, h1, h2, h3, ⟨hD2.1, hD2.2.1, hD2.2.2.1.F rfl, fun hf => nomatch hf⟩, l4, locs ++ L, l5, hD2.2.2.1.2.2⟩
end ZTC
end
section
/-! a throw that is caught, by the name of a class that may never have been looked up before -/
section ZCA
variable {e : Env} {f : JFrame} {a : Addr} {cell : Cell}
theorem zGoR {s : State} {x : ExceptionTableEntry} {t : List ExceptionTableEntry} {c : ClassId} (hx : covers x f.pc = true) (h0 : x.catchType ≠ 0) (hl : s.vm.ClassLinks e.platform f.method.cls x.catchType c)
    (hcell : s.heap[a]? = some cell) (hobj : ∀ k, cell.vm ≠ .statics k) (hk : ∃ k, s.vm.classes[cell.cls]? = some k) (Q : Handler → Pre) (E : CtlPost) (d : Bool) (acts : List Action) :
    wp (findHandler.go f a (x :: t)) Q E e d acts s ↔ (if s.vm.assignable cell.cls c = true then Q (.found x.handlerPc) d acts (s.setVm (s.vm.noted f.method.cls x.catchType (.cls c))) else wp (findHandler.go f a t) Q E e d acts (s.setVm (s.vm.noted f.method.cls x.catchType (.cls c)))) := by
  obtain ⟨r1, r2⟩ := (resolveClass_links e.toSetting hl).op (op := VmOp.resolveClass f.method.cls x.catchType) rfl
  have hal : s.vm.Alike (s.vm.noted f.method.cls x.catchType (.cls c)) := (Vm.Alike.refl s.vm).noted _ _ _
  obtain ⟨k, hk⟩ := hk
  obtain ⟨k1, hk1, -⟩ := hal.2.2 _ _ hk
  obtain ⟨-, -, -, ck, -, -, -, -, -, hck, -, -⟩ := hl.here
  obtain ⟨k2, hk2, -⟩ := hal.2.2 _ _ hck
  simp only [covers] at hx
  by_cases hf : s.vm.assignable cell.cls c = true
  · have h1 : (s.vm.noted f.method.cls x.catchType (.cls c)).assignable cell.cls c = true := by rw [hal.assignable]; exact hf
    simp [findHandler.go, hx, h0, r1, r2, hcell, hobj, hk1, hk2, h1, hf, VmOp.dirties, VmOp.acts]
  · have h1 : (s.vm.noted f.method.cls x.catchType (.cls c)).assignable cell.cls c = false := by rw [hal.assignable]; simpa using hf
    simp [findHandler.go, hx, h0, r1, r2, hcell, hobj, hk1, hk2, h1, hf, VmOp.dirties, VmOp.acts]
theorem zStepC {tb : Tables} {s target : State} {g : JFrame} {c : Code} {below : List Frame} (h : At s g.method c below) {pc : Nat} {vm' : Vm}
    (hfind : ∀ (Q : Handler → Pre) (E : CtlPost) (d : Bool) (acts : List Action), wp (findHandler g a) Q E e d acts ((s.setTop g).pushFrame (.throwing a)) ↔ Q (.found pc) d acts (((s.setTop g).pushFrame (.throwing a)).setVm vm'))
    (hrest : Steps tb e below ((s.setVm vm').setTop { g with pc := pc, stack := [.ref a] }) target) : Steps tb e below ((s.setTop g).pushFrame (.throwing a)) target := by
  obtain ⟨g₀, hg⟩ := Option.isSome_iff_exists.mp h.top
  obtain ⟨r, hr⟩ := State.topJava?_eq_some.mp hg
  have hst : (stepThrowing e ((s.setTop g).pushFrame (.throwing a)) a (.java g :: r)).Is ((((s.setTop g).pushFrame (.throwing a)).setVm vm').setFrames (.java { g with pc := pc, stack := [.ref a] } :: r)) [] := by
    simp only [stepThrowing, searchFrame, vmDo]
    generalize hq : Sem.go _ e false [] ((s.setTop g).pushFrame (.throwing a)) = res
    obtain ⟨as, rfl, ha⟩ := Sem.eq_ok_of hq (a := Handler.found pc) (s' := ((s.setTop g).pushFrame (.throwing a)).setVm vm') (acts' := []) (by simp [hfind _ _ _ _])
    exact ⟨rfl, ha⟩
  obtain ⟨hgo, hw⟩ := h.throwing a
  refine Steps.head hgo hw ?_
  have hfe := frames_entered h.top (.throwing a) (g := g)
  rw [hr, List.tail_cons] at hfe
  rw [stepThread_throwing hfe, hst.1]
  have hr' : (s.setVm vm').frames = .java g₀ :: r := hr
  rw [State.setTop_of_frames _ hr'] at hrest
  have e1 : (((s.setTop g).pushFrame (.throwing a)).setVm vm').setFrames (.java { g with pc := pc, stack := [.ref a] } :: r) = (s.setVm vm').setFrames (.java { g with pc := pc, stack := [.ref a] } :: r) := by
    have h1 : ∀ (u : State) (F : List Frame), (u.setFrames F).setVm vm' = (u.setVm vm').setFrames F := fun _ _ => rfl
    rw [State.setTop_of_frames _ hr, State.pushFrame, State.setFrames_setFrames, h1, State.setFrames_setFrames]
  rw [e1]
  exact hrest
end ZCA
section ZCB
variable {p : Program} {l : Launch} {e : Env} {R : Room} {s : State} {m : MethodId} {args : Array Value} {below : List Frame} {meth : Method} {c : Code} {T : State} {locs : List Loc} {k j : Nat} {ls : Array Slot} {st : List Value} {pc : Nat} {q : Addr} {ce : Cell} {own E E1 : String}
def zRow (x : ExceptionTableEntry) : Nat × Nat × Nat × Nat := (x.startPc, x.endPc, x.handlerPc, x.catchType)
theorem zRow_cov {x : ExceptionTableEntry} {a0 a1 hp ct : Nat} (h : zRow x = (a0, a1, hp, ct)) (h0 : a0 ≤ pc) (h1 : pc < a1) : covers x pc = true ∧ x.handlerPc = hp ∧ x.catchType = ct := by
  simp only [zRow, Prod.mk.injEq] at h
  obtain ⟨e1, e2, e3, e4⟩ := h
  refine ⟨?_, e3, e4⟩
  simp only [covers, e1, e2]
  simp [h0, h1]
theorem zCaught1 (Y : Stand p l e R s m args below meth c T locs k j) (hown : s.vm.findClass own = some m.cls) {a0 a1 hp ct : Nat} {hr : List (Nat × Nat × Nat × Nat)} (htab : c.exceptionTable.toList.map zRow = (a0, a1, hp, ct) :: hr) (h0 : a0 ≤ pc) (h1 : pc < a1) (hct : ct ≠ 0)
    (hlk : (Cond.classLink own ct E).before args s = true) (hce : T.heap[q]? = some ce) (hvm : ce.vm = .none) (hE : s.vm.findClass E = some ce.cls) :
    ∃ vm' : Vm, Stand p l e R s m args below meth c (T.setVm vm') locs k j ∧ ∀ target, Steps p.tables e below ((T.setVm vm').setTop (F0 m hp ls [.ref q])) target → Steps p.tables e below ((T.setTop (F0 m pc ls st)).pushFrame (.throwing q)) target := by
  have hpl : e.platform.magicAccessors = ({} : Platform).magicAccessors := by rw [Y.admits.platform]
  obtain ⟨c', hc', hl⟩ := Cond.classLink_spec hown hlk e.platform hpl
  cases Option.some.inj (hE.symm.trans hc')
  obtain ⟨x, t, hxt, hx, -⟩ := List.map_eq_cons_iff.mp htab
  obtain ⟨x1, x2, x3⟩ := zRow_cov hx h0 h1
  obtain ⟨dk, _, _, kt, hd, _, _, _, _, hkt, _, hopen⟩ := hl.here
  obtain ⟨kt', hkt', -⟩ := Y.warmed.alike.2.2 _ _ hkt
  refine ⟨T.vm.noted m.cls ct (.cls ce.cls), Y.noted (Y.warmed.noted hd hopen (State.rightAt_cls hl)), fun target hrest => ?_⟩
  refine zStepC (g := F0 m pc ls st) Y.here (fun Q E d acts => ?_) hrest
  rw [W.findHandler_eq (f := F0 m pc ls st) (s := (T.setTop (F0 m pc ls st)).pushFrame (.throwing q)) (meth := meth) (code := c) Y.method' Y.code, hxt]
  rw [zGoR (f := F0 m pc ls st) (s := (T.setTop (F0 m pc ls st)).pushFrame (.throwing q)) (c := ce.cls) (cell := ce) x1 (by rw [x3]; exact hct) (by rw [x3]; exact Y.warmed.classLinks hl) hce (fun _ => by rw [hvm]; simp) ⟨kt', hkt'⟩, if_pos (va_asg _ _), x2, x3]
  rfl
theorem zCaught2 (Y : Stand p l e R s m args below meth c T locs k j) (hown : s.vm.findClass own = some m.cls) {b0 b1 hb cb a0 a1 hp ct : Nat} {hr : List (Nat × Nat × Nat × Nat)} (htab : c.exceptionTable.toList.map zRow = (b0, b1, hb, cb) :: (a0, a1, hp, ct) :: hr) (g0 : b0 ≤ pc) (g1 : pc < b1) (hcb : cb ≠ 0) (h0 : a0 ≤ pc) (h1 : pc < a1) (hct : ct ≠ 0)
    (hlb : (Cond.classLink own cb E1).before args s = true) (hno : zNc E E1 s) (hlk : (Cond.classLink own ct E).before args s = true) (hce : T.heap[q]? = some ce) (hvm : ce.vm = .none) (hE : s.vm.findClass E = some ce.cls) :
    ∃ vm' : Vm, Stand p l e R s m args below meth c (T.setVm vm') locs k j ∧ ∀ target, Steps p.tables e below ((T.setVm vm').setTop (F0 m hp ls [.ref q])) target → Steps p.tables e below ((T.setTop (F0 m pc ls st)).pushFrame (.throwing q)) target := by
  have hpl : e.platform.magicAccessors = ({} : Platform).magicAccessors := by rw [Y.admits.platform]
  obtain ⟨c', hc', hl⟩ := Cond.classLink_spec hown hlk e.platform hpl
  cases Option.some.inj (hE.symm.trans hc')
  obtain ⟨b', hb', hl1⟩ := Cond.classLink_spec hown hlb e.platform hpl
  obtain ⟨n1, n2, m1, m2, m3⟩ := hno
  cases Option.some.inj (hE.symm.trans m1)
  cases Option.some.inj (hb'.symm.trans m2)
  obtain ⟨y, t0, hyt, hy, ht0⟩ := List.map_eq_cons_iff.mp htab
  obtain ⟨x, t, hxt, hx, -⟩ := List.map_eq_cons_iff.mp ht0
  subst hxt
  obtain ⟨x1, x2, x3⟩ := zRow_cov hx h0 h1
  obtain ⟨y1, y2, y3⟩ := zRow_cov hy g0 g1
  obtain ⟨dk, _, _, kt, hd, _, _, _, _, hkt, _, hopen⟩ := hl.here
  obtain ⟨dk1, _, _, -, hd1, _, _, _, _, -, _, hopen1⟩ := hl1.here
  obtain ⟨kt', hkt', -⟩ := Y.warmed.alike.2.2 _ _ hkt
  have hW1 : s.WarmedH (T.vm.noted m.cls cb (.cls b')) := Y.warmed.noted hd1 hopen1 (State.rightAt_cls hl1)
  obtain ⟨kt2, hkt2, -⟩ := hW1.alike.2.2 _ _ hkt
  have hna : ¬ (T.vm.assignable ce.cls b' = true) := by rw [Y.warmed.alike.assignable, m3]; simp
  refine ⟨(T.vm.noted m.cls cb (.cls b')).noted m.cls ct (.cls ce.cls), Y.noted (hW1.noted hd hopen (State.rightAt_cls hl)), fun target hrest => ?_⟩
  refine zStepC (g := F0 m pc ls st) Y.here (fun Q E d acts => ?_) hrest
  rw [W.findHandler_eq (f := F0 m pc ls st) (s := (T.setTop (F0 m pc ls st)).pushFrame (.throwing q)) (meth := meth) (code := c) Y.method' Y.code, hyt]
  rw [zGoR (f := F0 m pc ls st) (s := (T.setTop (F0 m pc ls st)).pushFrame (.throwing q)) (c := b') (cell := ce) y1 (by rw [y3]; exact hcb) (by rw [y3]; exact Y.warmed.classLinks hl1) hce (fun _ => by rw [hvm]; simp) ⟨kt', hkt'⟩, if_neg (show ¬ (((T.setTop (F0 m pc ls st)).pushFrame (.throwing q)).vm.assignable ce.cls b' = true) from hna), y3]
  refine Iff.trans (zGoR (f := F0 m pc ls st) (s := ((T.setTop (F0 m pc ls st)).pushFrame (.throwing q)).setVm (T.vm.noted m.cls cb (.cls b'))) (c := ce.cls) (cell := ce) x1 (by rw [x3]; exact hct) (by rw [x3]; exact hW1.classLinks hl) hce (fun _ => by rw [hvm]; simp) ⟨kt2, hkt2⟩ Q E d acts) ?_
  rw [if_pos (va_asg _ _), x2, x3]
  rfl
end ZCB
end
section
/-- at pc of M, an E that comes out of a call goes to the handler at hp -/
def zCat (M : zM) (E : String) (pc hp : Nat) : Prop := ∀ (X : zX) (p : Program) (e : Env) (R : Room) (s : State) (m : MethodId) (args : Array Value) (below : List Frame) (meth : Method) (c : Code) (A : Nat → Prop) (T : State) (locs : List Loc) (k j : Nat) (ls : Array Slot) (st : List Value) (q : Addr) (ce : Cell),
  zB X M p s m args meth c A → Stand p X.1 e R s m args below meth c T locs k j → T.heap[q]? = some ce → ce.vm = .none → s.vm.findClass E = some ce.cls →
  ∃ vm' : Vm, Stand p X.1 e R s m args below meth c (T.setVm vm') locs k j ∧ ∀ target, Steps p.tables e below ((T.setVm vm').setTop (F0 m hp ls [.ref q])) target → Steps p.tables e below ((T.setTop (F0 m pc ls st)).pushFrame (.throwing q)) target
theorem zTabOf {X : zX} {M : zM} {p : Program} {e : Env} {R : Room} {s : State} {m : MethodId} {args : Array Value} {below : List Frame} {meth : Method} {c : Code} {A : Nat → Prop} {T : State} {locs : List Loc} {k j : Nat} {hh : List (Nat × Nat × Nat × Nat)} (hB : zB X M p s m args meth c A) (Y : Stand p X.1 e R s m args below meth c T locs k j) (hcw : Cond.codeWith M.1 M.2.1 M.2.2.1 M.2.2.2 hh ∈ zWA) : c.exceptionTable.toList.map zRow = hh := by
  obtain ⟨m9, meth9, c9, n1, n2, n3, -, -, n4, -⟩ := Cond.codeWith_spec (hB.word hcw)
  cases Option.some.inj (hB.named.symm.trans n1)
  cases Option.some.inj (Y.method.symm.trans n2)
  cases Option.some.inj (Y.code.symm.trans n3)
  exact n4
theorem zCat1 {M : zM} {E : String} {pc hp a0 a1 ct : Nat} {hr : List (Nat × Nat × Nat × Nat)} (hcw : Cond.codeWith M.1 M.2.1 M.2.2.1 M.2.2.2 ((a0, a1, hp, ct) :: hr) ∈ zWA) (hlk : Cond.classLink M.1.cls ct E ∈ zWA) (h : a0 ≤ pc ∧ pc < a1 ∧ ct ≠ 0) : zCat M E pc hp := by
  intro X p e R s m args below meth c A T locs k j ls st q ce hB Y h1 h2 h3
  exact zCaught1 Y hB.own (zTabOf hB Y hcw) h.1 h.2.1 h.2.2 (hB.word hlk) h1 h2 h3
theorem zCat2 {M : zM} {E : String} {pc hp a0 a1 ct b0 b1 hb cb : Nat} {hr : List (Nat × Nat × Nat × Nat)} (hE : E = "java/lang/IllegalStateException" ∨ E = "java/util/NoSuchElementException") (hcw : Cond.codeWith M.1 M.2.1 M.2.2.1 M.2.2.2 ((b0, b1, hb, cb) :: (a0, a1, hp, ct) :: hr) ∈ zWA) (hlb : Cond.classLink M.1.cls cb "java/lang/IllegalArgumentException" ∈ zWA) (hlk : Cond.classLink M.1.cls ct E ∈ zWA) (g : b0 ≤ pc ∧ pc < b1 ∧ cb ≠ 0) (h : a0 ≤ pc ∧ pc < a1 ∧ ct ≠ 0) : zCat M E pc hp := by
  intro X p e R s m args below meth c A T locs k j ls st q ce hB Y h1 h2 h3
  have hn : zNc E "java/lang/IllegalArgumentException" s := by
    obtain ⟨-, n1, n2⟩ := hB.stat.2.2.2.2.1
    rcases hE with rfl | rfl
    · exact n1
    · exact n2
  exact zCaught2 Y hB.own (zTabOf hB Y hcw) g.1 g.2.1 g.2.2 h.1 h.2.1 h.2.2 (hB.word hlb) hn (hB.word hlk) h1 h2 h3
section ZTD
variable {X : zX} {R : Room} {M M' : zM} {Q : zQT} {h : zH} {n pc k j d' ix na b ci N hp len i : Nat} {lv : List (Nat × Value)} {st stk av fs : List Value} {Tt : u_T} {E : String}
/-- the callee throws, the caller catches it and puts it by -/
theorem z_callC (hd : decode M.2.1 pc = .ok (.invokevirtual ix, 3)) (g : zGv M.1.cls ix M' na) (hC : zTC X d' M' 1 6 (.ref b :: av) h n E) (hb : b < n) (hc : h b = .inr (ci, fs)) (hci : zCl[ci]? = some (M'.1.cls, Tt, N)) (hstk : av.reverse ++ .ref b :: st = stk) (hR : zRm R d' 1 6 k j) (hna : av.length = na) (hsum : (st.map fun v => v.category).sum ≤ 8)
    (hcat : zCat M E pc hp) (hda : (len = 2 ∧ decode M.2.1 hp = .ok (.astore i, 2)) ∨ (len = 1 ∧ ∃ f : Fin 4, (f : Nat) = i ∧ decode M.2.1 hp = .ok (.astore_n f, 1))) (hi : i < M.2.2.1) (hlv : ∀ q ∈ lv, q.1 + q.2.category ≤ i)
    (kk : zJ X R M Q false (k + 1) (j + 6) h n (hp + len) lv []) : zJ X R M Q false k j h n pc lv stk := by
  intro p e s m args below meth c A H locs ls hB hDD hL T hT Y
  subst hT
  subst hstk
  obtain ⟨q, T', L, ce, Y2, st1, h1, h2, h3, hD2⟩ := zInto hB hDD Y (ls := ls) (by rw [hB.2.2.1]; exact hL.1) hd g hC hb hc hci hR hna hsum
  obtain ⟨vm', Y3, st2⟩ := hcat X p e R s m args below meth c A T' _ _ _ ls (st.map (zV X.2.2.2.1)) q ce hB Y2 h1 h2 h3
  have hkeep : ∀ ls' : Array Slot, lv_has ls' M.2.2.1 ((i, Value.ref q) :: (lv.map fun q => (q.1, zV X.2.2.2.1 q.2)).filter (fun q => !(q.1 == i) && !(q.1 + 1 == i && q.2.category == 2))) → lv_has ls' M.2.2.1 (lv.map fun q => (q.1, zV X.2.2.2.1 q.2)) := by
    intro ls' hL'
    refine ⟨hL'.1, hL'.2.1, fun q0 hq0 => hL'.2.2 q0 (List.mem_cons_of_mem _ (List.mem_filter.mpr ⟨hq0, ?_⟩))⟩
    obtain ⟨q1, hq1, rfl⟩ := List.mem_map.mp hq0
    have h9 := hlv q1 hq1
    have h8 : 1 ≤ q1.2.category := by cases q1.2 <;> exact Nat.le_of_ble_eq_true rfl
    simp only [zV_cat, Bool.and_eq_true, Bool.not_eq_true', beq_eq_false_iff_ne, ne_eq, Bool.and_eq_false_iff]
    refine ⟨by omega, ?_⟩
    by_cases h7 : q1.1 + 1 = i
    · exact Or.inr (by omega)
    · exact Or.inl h7
  have hW : W p X.1 e R s m args below meth c T'.heap (locs ++ L) (k + 1) (j + 6) (Q A below args s) (F0 m hp ls [.ref q]) := by
    rcases hda with ⟨rfl, hda⟩ | ⟨rfl, f, rfl, hda⟩
    · exact lv_astore hB.1 hB.2.1 hda hL hi rfl (fun ls' hL' => kk p e s m args below meth c A T'.heap (locs ++ L) ls' hB hD2 (hkeep ls' hL'))
    · exact lv_astore_n hB.1 hB.2.1 hda rfl hL hi rfl (fun ls' hL' => kk p e s m args below meth c A T'.heap (locs ++ L) ls' hB hD2 (hkeep ls' hL'))
  obtain ⟨t, a1, b1⟩ := hW (T'.setVm vm') rfl Y3
  exact ⟨t, st1.trans (st2 t a1), b1⟩
end ZTD
end
