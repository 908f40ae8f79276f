theorem d_Sto_init_0 : decode m_Sto_init.2.1 0 = .ok (.aload_n 0, 1) := by decide +kernel
theorem d_Sto_init_1 : decode m_Sto_init.2.1 1 = .ok (.invokespecial 3, 3) := by decide +kernel
theorem d_Sto_init_4 : decode m_Sto_init.2.1 4 = .ok (.aload_n 0, 1) := by decide +kernel
theorem d_Sto_init_5 : decode m_Sto_init.2.1 5 = .ok (.iconst 3, 1) := by decide +kernel
theorem d_Sto_init_6 : decode m_Sto_init.2.1 6 = .ok (.anewarray 9, 3) := by decide +kernel
theorem d_Sto_init_9 : decode m_Sto_init.2.1 9 = .ok (.putfield 11, 3) := by decide +kernel
theorem d_Sto_init_12 : decode m_Sto_init.2.1 12 = .ok (.aload_n 0, 1) := by decide +kernel
theorem d_Sto_init_13 : decode m_Sto_init.2.1 13 = .ok (.iconst 0, 1) := by decide +kernel
theorem d_Sto_init_14 : decode m_Sto_init.2.1 14 = .ok (.putfield 17, 3) := by decide +kernel
theorem d_Sto_init_17 : decode m_Sto_init.2.1 17 = .ok (.aload_n 0, 1) := by decide +kernel
theorem d_Sto_init_18 : decode m_Sto_init.2.1 18 = .ok (.new 21, 3) := by decide +kernel
theorem d_Sto_init_21 : decode m_Sto_init.2.1 21 = .ok (.dup, 1) := by decide +kernel
theorem d_Sto_init_22 : decode m_Sto_init.2.1 22 = .ok (.sipush 360, 3) := by decide +kernel
theorem d_Sto_init_25 : decode m_Sto_init.2.1 25 = .ok (.invokespecial 23, 3) := by decide +kernel
theorem d_Sto_init_28 : decode m_Sto_init.2.1 28 = .ok (.putfield 26, 3) := by decide +kernel
theorem d_Sto_init_31 : decode m_Sto_init.2.1 31 = .ok (.aload_n 0, 1) := by decide +kernel
theorem d_Sto_init_32 : decode m_Sto_init.2.1 32 = .ok (.bipush 90, 2) := by decide +kernel
theorem d_Sto_init_34 : decode m_Sto_init.2.1 34 = .ok (.newarray .long, 2) := by decide +kernel
theorem d_Sto_init_36 : decode m_Sto_init.2.1 36 = .ok (.putfield 30, 3) := by decide +kernel
theorem d_Sto_init_39 : decode m_Sto_init.2.1 39 = .ok (.aload_n 0, 1) := by decide +kernel
theorem d_Sto_init_40 : decode m_Sto_init.2.1 40 = .ok (.bipush 90, 2) := by decide +kernel
theorem d_Sto_init_42 : decode m_Sto_init.2.1 42 = .ok (.newarray .int, 2) := by decide +kernel
theorem d_Sto_init_44 : decode m_Sto_init.2.1 44 = .ok (.putfield 34, 3) := by decide +kernel
theorem d_Sto_init_47 : decode m_Sto_init.2.1 47 = .ok (.aload_n 0, 1) := by decide +kernel
theorem d_Sto_init_48 : decode m_Sto_init.2.1 48 = .ok (.bipush 90, 2) := by decide +kernel
theorem d_Sto_init_50 : decode m_Sto_init.2.1 50 = .ok (.putfield 38, 3) := by decide +kernel
theorem d_Sto_init_53 : decode m_Sto_init.2.1 53 = .ok (.iconst 0, 1) := by decide +kernel
theorem d_Sto_init_54 : decode m_Sto_init.2.1 54 = .ok (.istore_n 1, 1) := by decide +kernel
theorem d_Sto_init_55 : decode m_Sto_init.2.1 55 = .ok (.iload_n 1, 1) := by decide +kernel
theorem d_Sto_init_56 : decode m_Sto_init.2.1 56 = .ok (.iconst 3, 1) := by decide +kernel
theorem d_Sto_init_57 : decode m_Sto_init.2.1 57 = .ok (.if_icmp .ge 22, 3) := by decide +kernel
theorem d_Sto_init_60 : decode m_Sto_init.2.1 60 = .ok (.aload_n 0, 1) := by decide +kernel
theorem d_Sto_init_61 : decode m_Sto_init.2.1 61 = .ok (.getfield 11, 3) := by decide +kernel
theorem d_Sto_init_64 : decode m_Sto_init.2.1 64 = .ok (.iload_n 1, 1) := by decide +kernel
theorem d_Sto_init_65 : decode m_Sto_init.2.1 65 = .ok (.new 9, 3) := by decide +kernel
theorem d_Sto_init_68 : decode m_Sto_init.2.1 68 = .ok (.dup, 1) := by decide +kernel
theorem d_Sto_init_69 : decode m_Sto_init.2.1 69 = .ok (.invokespecial 41, 3) := by decide +kernel
theorem d_Sto_init_72 : decode m_Sto_init.2.1 72 = .ok (.aastore, 1) := by decide +kernel
theorem d_Sto_init_73 : decode m_Sto_init.2.1 73 = .ok (.iinc 1 1, 3) := by decide +kernel
theorem d_Sto_init_76 : decode m_Sto_init.2.1 76 = .ok (.goto (-21), 3) := by decide +kernel
theorem d_Sto_init_79 : decode m_Sto_init.2.1 79 = .ok (.iconst 0, 1) := by decide +kernel
theorem d_Sto_init_80 : decode m_Sto_init.2.1 80 = .ok (.istore_n 1, 1) := by decide +kernel
theorem d_Sto_init_81 : decode m_Sto_init.2.1 81 = .ok (.iload_n 1, 1) := by decide +kernel
theorem d_Sto_init_82 : decode m_Sto_init.2.1 82 = .ok (.bipush 90, 2) := by decide +kernel
theorem d_Sto_init_84 : decode m_Sto_init.2.1 84 = .ok (.if_icmp .ge 16, 3) := by decide +kernel
theorem d_Sto_init_87 : decode m_Sto_init.2.1 87 = .ok (.aload_n 0, 1) := by decide +kernel
theorem d_Sto_init_88 : decode m_Sto_init.2.1 88 = .ok (.getfield 34, 3) := by decide +kernel
theorem d_Sto_init_91 : decode m_Sto_init.2.1 91 = .ok (.iload_n 1, 1) := by decide +kernel
theorem d_Sto_init_92 : decode m_Sto_init.2.1 92 = .ok (.iload_n 1, 1) := by decide +kernel
theorem d_Sto_init_93 : decode m_Sto_init.2.1 93 = .ok (.iastore, 1) := by decide +kernel
theorem d_Sto_init_94 : decode m_Sto_init.2.1 94 = .ok (.iinc 1 1, 3) := by decide +kernel
theorem d_Sto_init_97 : decode m_Sto_init.2.1 97 = .ok (.goto (-16), 3) := by decide +kernel
theorem d_Sto_init_100 : decode m_Sto_init.2.1 100 = .ok (.return_, 1) := by decide +kernel
theorem d_Sto_hasTable_0 : decode m_Sto_hasTable.2.1 0 = .ok (.iload_n 1, 1) := by decide +kernel
theorem d_Sto_hasTable_1 : decode m_Sto_hasTable.2.1 1 = .ok (.aload_n 0, 1) := by decide +kernel
theorem d_Sto_hasTable_2 : decode m_Sto_hasTable.2.1 2 = .ok (.getfield 17, 3) := by decide +kernel
theorem d_Sto_hasTable_5 : decode m_Sto_hasTable.2.1 5 = .ok (.invokestatic 45, 3) := by decide +kernel
theorem d_Sto_hasTable_8 : decode m_Sto_hasTable.2.1 8 = .ok (.ireturn, 1) := by decide +kernel
theorem d_Sto_hasColumn_0 : decode m_Sto_hasColumn.2.1 0 = .ok (.aload_n 0, 1) := by decide +kernel
theorem d_Sto_hasColumn_1 : decode m_Sto_hasColumn.2.1 1 = .ok (.iload_n 1, 1) := by decide +kernel
theorem d_Sto_hasColumn_2 : decode m_Sto_hasColumn.2.1 2 = .ok (.invokevirtual 49, 3) := by decide +kernel
theorem d_Sto_hasColumn_5 : decode m_Sto_hasColumn.2.1 5 = .ok (.ifCond .eq 23, 3) := by decide +kernel
theorem d_Sto_hasColumn_8 : decode m_Sto_hasColumn.2.1 8 = .ok (.iload_n 2, 1) := by decide +kernel
theorem d_Sto_hasColumn_9 : decode m_Sto_hasColumn.2.1 9 = .ok (.aload_n 0, 1) := by decide +kernel
theorem d_Sto_hasColumn_10 : decode m_Sto_hasColumn.2.1 10 = .ok (.getfield 11, 3) := by decide +kernel
theorem d_Sto_hasColumn_13 : decode m_Sto_hasColumn.2.1 13 = .ok (.iload_n 1, 1) := by decide +kernel
theorem d_Sto_hasColumn_14 : decode m_Sto_hasColumn.2.1 14 = .ok (.aaload, 1) := by decide +kernel
theorem d_Sto_hasColumn_15 : decode m_Sto_hasColumn.2.1 15 = .ok (.getfield 42, 3) := by decide +kernel
theorem d_Sto_hasColumn_18 : decode m_Sto_hasColumn.2.1 18 = .ok (.invokestatic 45, 3) := by decide +kernel
theorem d_Sto_hasColumn_21 : decode m_Sto_hasColumn.2.1 21 = .ok (.ifCond .eq 7, 3) := by decide +kernel
theorem d_Sto_hasColumn_24 : decode m_Sto_hasColumn.2.1 24 = .ok (.iconst 1, 1) := by decide +kernel
theorem d_Sto_hasColumn_25 : decode m_Sto_hasColumn.2.1 25 = .ok (.goto 4, 3) := by decide +kernel
theorem d_Sto_hasColumn_28 : decode m_Sto_hasColumn.2.1 28 = .ok (.iconst 0, 1) := by decide +kernel
theorem d_Sto_hasColumn_29 : decode m_Sto_hasColumn.2.1 29 = .ok (.ireturn, 1) := by decide +kernel
theorem d_Sto_begin_0 : decode m_Sto_begin.2.1 0 = .ok (.aload_n 0, 1) := by decide +kernel
theorem d_Sto_begin_1 : decode m_Sto_begin.2.1 1 = .ok (.getfield 17, 3) := by decide +kernel
theorem d_Sto_begin_4 : decode m_Sto_begin.2.1 4 = .ok (.istore_n 2, 1) := by decide +kernel
theorem d_Sto_begin_5 : decode m_Sto_begin.2.1 5 = .ok (.aload_n 0, 1) := by decide +kernel
theorem d_Sto_begin_6 : decode m_Sto_begin.2.1 6 = .ok (.getfield 11, 3) := by decide +kernel
theorem d_Sto_begin_9 : decode m_Sto_begin.2.1 9 = .ok (.iload_n 2, 1) := by decide +kernel
theorem d_Sto_begin_10 : decode m_Sto_begin.2.1 10 = .ok (.aaload, 1) := by decide +kernel
theorem d_Sto_begin_11 : decode m_Sto_begin.2.1 11 = .ok (.iload_n 1, 1) := by decide +kernel
theorem d_Sto_begin_12 : decode m_Sto_begin.2.1 12 = .ok (.putfield 42, 3) := by decide +kernel
theorem d_Sto_begin_15 : decode m_Sto_begin.2.1 15 = .ok (.aload_n 0, 1) := by decide +kernel
theorem d_Sto_begin_16 : decode m_Sto_begin.2.1 16 = .ok (.dup, 1) := by decide +kernel
theorem d_Sto_begin_17 : decode m_Sto_begin.2.1 17 = .ok (.getfield 17, 3) := by decide +kernel
theorem d_Sto_begin_20 : decode m_Sto_begin.2.1 20 = .ok (.iconst 1, 1) := by decide +kernel
theorem d_Sto_begin_21 : decode m_Sto_begin.2.1 21 = .ok (.iadd, 1) := by decide +kernel
theorem d_Sto_begin_22 : decode m_Sto_begin.2.1 22 = .ok (.putfield 17, 3) := by decide +kernel
theorem d_Sto_begin_25 : decode m_Sto_begin.2.1 25 = .ok (.iload_n 2, 1) := by decide +kernel
theorem d_Sto_begin_26 : decode m_Sto_begin.2.1 26 = .ok (.ireturn, 1) := by decide +kernel
theorem d_Sto_isFull_0 : decode m_Sto_isFull.2.1 0 = .ok (.aload_n 0, 1) := by decide +kernel
theorem d_Sto_isFull_1 : decode m_Sto_isFull.2.1 1 = .ok (.getfield 38, 3) := by decide +kernel
theorem d_Sto_isFull_4 : decode m_Sto_isFull.2.1 4 = .ok (.ifCond .ne 7, 3) := by decide +kernel
theorem d_Sto_isFull_7 : decode m_Sto_isFull.2.1 7 = .ok (.iconst 1, 1) := by decide +kernel
theorem d_Sto_isFull_8 : decode m_Sto_isFull.2.1 8 = .ok (.goto 4, 3) := by decide +kernel
theorem d_Sto_isFull_11 : decode m_Sto_isFull.2.1 11 = .ok (.iconst 0, 1) := by decide +kernel
theorem d_Sto_isFull_12 : decode m_Sto_isFull.2.1 12 = .ok (.ireturn, 1) := by decide +kernel
theorem d_Sto_bring_0 : decode m_Sto_bring.2.1 0 = .ok (.aload_n 0, 1) := by decide +kernel
theorem d_Sto_bring_1 : decode m_Sto_bring.2.1 1 = .ok (.iload_n 1, 1) := by decide +kernel
theorem d_Sto_bring_2 : decode m_Sto_bring.2.1 2 = .ok (.lload_n 2, 1) := by decide +kernel
theorem d_Sto_bring_3 : decode m_Sto_bring.2.1 3 = .ok (.iconst 0, 1) := by decide +kernel
theorem d_Sto_bring_4 : decode m_Sto_bring.2.1 4 = .ok (.invokevirtual 59, 3) := by decide +kernel
theorem d_Sto_bring_7 : decode m_Sto_bring.2.1 7 = .ok (.istore 6, 2) := by decide +kernel
theorem d_Sto_bring_9 : decode m_Sto_bring.2.1 9 = .ok (.aload_n 0, 1) := by decide +kernel
theorem d_Sto_bring_10 : decode m_Sto_bring.2.1 10 = .ok (.invokevirtual 67, 3) := by decide +kernel
theorem d_Sto_bring_13 : decode m_Sto_bring.2.1 13 = .ok (.ifCond .ne 14, 3) := by decide +kernel
theorem d_Sto_bring_16 : decode m_Sto_bring.2.1 16 = .ok (.aload_n 0, 1) := by decide +kernel
theorem d_Sto_bring_17 : decode m_Sto_bring.2.1 17 = .ok (.iload_n 1, 1) := by decide +kernel
theorem d_Sto_bring_18 : decode m_Sto_bring.2.1 18 = .ok (.iload 6, 2) := by decide +kernel
theorem d_Sto_bring_20 : decode m_Sto_bring.2.1 20 = .ok (.lload_n 2, 1) := by decide +kernel
theorem d_Sto_bring_21 : decode m_Sto_bring.2.1 21 = .ok (.invokevirtual 63, 3) := by decide +kernel
theorem d_Sto_bring_24 : decode m_Sto_bring.2.1 24 = .ok (.ifCond .eq 5, 3) := by decide +kernel
theorem d_Sto_bring_27 : decode m_Sto_bring.2.1 27 = .ok (.iconst 0, 1) := by decide +kernel
theorem d_Sto_bring_28 : decode m_Sto_bring.2.1 28 = .ok (.ireturn, 1) := by decide +kernel
theorem d_Sto_bring_29 : decode m_Sto_bring.2.1 29 = .ok (.aload_n 0, 1) := by decide +kernel
theorem d_Sto_bring_30 : decode m_Sto_bring.2.1 30 = .ok (.dup, 1) := by decide +kernel
theorem d_Sto_bring_31 : decode m_Sto_bring.2.1 31 = .ok (.getfield 38, 3) := by decide +kernel
theorem d_Sto_bring_34 : decode m_Sto_bring.2.1 34 = .ok (.iconst 1, 1) := by decide +kernel
theorem d_Sto_bring_35 : decode m_Sto_bring.2.1 35 = .ok (.isub, 1) := by decide +kernel
theorem d_Sto_bring_36 : decode m_Sto_bring.2.1 36 = .ok (.putfield 38, 3) := by decide +kernel
theorem d_Sto_bring_39 : decode m_Sto_bring.2.1 39 = .ok (.aload_n 0, 1) := by decide +kernel
theorem d_Sto_bring_40 : decode m_Sto_bring.2.1 40 = .ok (.getfield 34, 3) := by decide +kernel
theorem d_Sto_bring_43 : decode m_Sto_bring.2.1 43 = .ok (.aload_n 0, 1) := by decide +kernel
theorem d_Sto_bring_44 : decode m_Sto_bring.2.1 44 = .ok (.getfield 38, 3) := by decide +kernel
theorem d_Sto_bring_47 : decode m_Sto_bring.2.1 47 = .ok (.iaload, 1) := by decide +kernel
theorem d_Sto_bring_48 : decode m_Sto_bring.2.1 48 = .ok (.istore 7, 2) := by decide +kernel
theorem d_Sto_bring_50 : decode m_Sto_bring.2.1 50 = .ok (.aload_n 0, 1) := by decide +kernel
theorem d_Sto_bring_51 : decode m_Sto_bring.2.1 51 = .ok (.getfield 30, 3) := by decide +kernel
theorem d_Sto_bring_54 : decode m_Sto_bring.2.1 54 = .ok (.iload 7, 2) := by decide +kernel
theorem d_Sto_bring_56 : decode m_Sto_bring.2.1 56 = .ok (.lload_n 2, 1) := by decide +kernel
theorem d_Sto_bring_57 : decode m_Sto_bring.2.1 57 = .ok (.lastore, 1) := by decide +kernel
theorem d_Sto_bring_58 : decode m_Sto_bring.2.1 58 = .ok (.iconst 0, 1) := by decide +kernel
theorem d_Sto_bring_59 : decode m_Sto_bring.2.1 59 = .ok (.istore 8, 2) := by decide +kernel
theorem d_Sto_bring_61 : decode m_Sto_bring.2.1 61 = .ok (.iload 8, 2) := by decide +kernel
theorem d_Sto_bring_63 : decode m_Sto_bring.2.1 63 = .ok (.aload_n 0, 1) := by decide +kernel
theorem d_Sto_bring_64 : decode m_Sto_bring.2.1 64 = .ok (.getfield 11, 3) := by decide +kernel
theorem d_Sto_bring_67 : decode m_Sto_bring.2.1 67 = .ok (.iload_n 1, 1) := by decide +kernel
theorem d_Sto_bring_68 : decode m_Sto_bring.2.1 68 = .ok (.aaload, 1) := by decide +kernel
theorem d_Sto_bring_69 : decode m_Sto_bring.2.1 69 = .ok (.getfield 42, 3) := by decide +kernel
theorem d_Sto_bring_72 : decode m_Sto_bring.2.1 72 = .ok (.if_icmp .ge 30, 3) := by decide +kernel
theorem d_Sto_bring_75 : decode m_Sto_bring.2.1 75 = .ok (.aload_n 0, 1) := by decide +kernel
theorem d_Sto_bring_76 : decode m_Sto_bring.2.1 76 = .ok (.getfield 26, 3) := by decide +kernel
theorem d_Sto_bring_79 : decode m_Sto_bring.2.1 79 = .ok (.iload 7, 2) := by decide +kernel
theorem d_Sto_bring_81 : decode m_Sto_bring.2.1 81 = .ok (.iconst 4, 1) := by decide +kernel
theorem d_Sto_bring_82 : decode m_Sto_bring.2.1 82 = .ok (.imul, 1) := by decide +kernel
theorem d_Sto_bring_83 : decode m_Sto_bring.2.1 83 = .ok (.iload 8, 2) := by decide +kernel
theorem d_Sto_bring_85 : decode m_Sto_bring.2.1 85 = .ok (.iadd, 1) := by decide +kernel
theorem d_Sto_bring_86 : decode m_Sto_bring.2.1 86 = .ok (.aload 4, 2) := by decide +kernel
theorem d_Sto_bring_88 : decode m_Sto_bring.2.1 88 = .ok (.iload 5, 2) := by decide +kernel
theorem d_Sto_bring_90 : decode m_Sto_bring.2.1 90 = .ok (.iload 8, 2) := by decide +kernel
theorem d_Sto_bring_92 : decode m_Sto_bring.2.1 92 = .ok (.iadd, 1) := by decide +kernel
theorem d_Sto_bring_93 : decode m_Sto_bring.2.1 93 = .ok (.invokevirtual 71, 3) := by decide +kernel
theorem d_Sto_bring_96 : decode m_Sto_bring.2.1 96 = .ok (.iinc 8 1, 3) := by decide +kernel
theorem d_Sto_bring_99 : decode m_Sto_bring.2.1 99 = .ok (.goto (-38), 3) := by decide +kernel
theorem d_Sto_bring_102 : decode m_Sto_bring.2.1 102 = .ok (.aload_n 0, 1) := by decide +kernel
theorem d_Sto_bring_103 : decode m_Sto_bring.2.1 103 = .ok (.getfield 11, 3) := by decide +kernel
theorem d_Sto_bring_106 : decode m_Sto_bring.2.1 106 = .ok (.iload_n 1, 1) := by decide +kernel
theorem d_Sto_bring_107 : decode m_Sto_bring.2.1 107 = .ok (.aaload, 1) := by decide +kernel
theorem d_Sto_bring_108 : decode m_Sto_bring.2.1 108 = .ok (.iload 6, 2) := by decide +kernel
theorem d_Sto_bring_110 : decode m_Sto_bring.2.1 110 = .ok (.iload 7, 2) := by decide +kernel
theorem d_Sto_bring_112 : decode m_Sto_bring.2.1 112 = .ok (.invokevirtual 75, 3) := by decide +kernel
theorem d_Sto_bring_115 : decode m_Sto_bring.2.1 115 = .ok (.iconst 1, 1) := by decide +kernel
theorem d_Sto_bring_116 : decode m_Sto_bring.2.1 116 = .ok (.ireturn, 1) := by decide +kernel
theorem d_Sto_rowsBelow_0 : decode m_Sto_rowsBelow.2.1 0 = .ok (.aload_n 0, 1) := by decide +kernel
theorem d_Sto_rowsBelow_1 : decode m_Sto_rowsBelow.2.1 1 = .ok (.getfield 11, 3) := by decide +kernel
theorem d_Sto_rowsBelow_4 : decode m_Sto_rowsBelow.2.1 4 = .ok (.iload_n 1, 1) := by decide +kernel
theorem d_Sto_rowsBelow_5 : decode m_Sto_rowsBelow.2.1 5 = .ok (.aaload, 1) := by decide +kernel
theorem d_Sto_rowsBelow_6 : decode m_Sto_rowsBelow.2.1 6 = .ok (.astore 5, 2) := by decide +kernel
theorem d_Sto_rowsBelow_8 : decode m_Sto_rowsBelow.2.1 8 = .ok (.iconst 0, 1) := by decide +kernel
theorem d_Sto_rowsBelow_9 : decode m_Sto_rowsBelow.2.1 9 = .ok (.istore 6, 2) := by decide +kernel
theorem d_Sto_rowsBelow_11 : decode m_Sto_rowsBelow.2.1 11 = .ok (.bipush 64, 2) := by decide +kernel
theorem d_Sto_rowsBelow_13 : decode m_Sto_rowsBelow.2.1 13 = .ok (.istore 7, 2) := by decide +kernel
theorem d_Sto_rowsBelow_15 : decode m_Sto_rowsBelow.2.1 15 = .ok (.iload 7, 2) := by decide +kernel
theorem d_Sto_rowsBelow_17 : decode m_Sto_rowsBelow.2.1 17 = .ok (.ifCond .le 72, 3) := by decide +kernel
theorem d_Sto_rowsBelow_20 : decode m_Sto_rowsBelow.2.1 20 = .ok (.iload 6, 2) := by decide +kernel
theorem d_Sto_rowsBelow_22 : decode m_Sto_rowsBelow.2.1 22 = .ok (.iload 7, 2) := by decide +kernel
theorem d_Sto_rowsBelow_24 : decode m_Sto_rowsBelow.2.1 24 = .ok (.iadd, 1) := by decide +kernel
theorem d_Sto_rowsBelow_25 : decode m_Sto_rowsBelow.2.1 25 = .ok (.iconst 1, 1) := by decide +kernel
theorem d_Sto_rowsBelow_26 : decode m_Sto_rowsBelow.2.1 26 = .ok (.isub, 1) := by decide +kernel
theorem d_Sto_rowsBelow_27 : decode m_Sto_rowsBelow.2.1 27 = .ok (.istore 8, 2) := by decide +kernel
theorem d_Sto_rowsBelow_29 : decode m_Sto_rowsBelow.2.1 29 = .ok (.iload 8, 2) := by decide +kernel
theorem d_Sto_rowsBelow_31 : decode m_Sto_rowsBelow.2.1 31 = .ok (.aload 5, 2) := by decide +kernel
theorem d_Sto_rowsBelow_33 : decode m_Sto_rowsBelow.2.1 33 = .ok (.getfield 53, 3) := by decide +kernel
theorem d_Sto_rowsBelow_36 : decode m_Sto_rowsBelow.2.1 36 = .ok (.if_icmp .ge 44, 3) := by decide +kernel
theorem d_Sto_rowsBelow_39 : decode m_Sto_rowsBelow.2.1 39 = .ok (.aload_n 0, 1) := by decide +kernel
theorem d_Sto_rowsBelow_40 : decode m_Sto_rowsBelow.2.1 40 = .ok (.getfield 30, 3) := by decide +kernel
theorem d_Sto_rowsBelow_43 : decode m_Sto_rowsBelow.2.1 43 = .ok (.aload 5, 2) := by decide +kernel
theorem d_Sto_rowsBelow_45 : decode m_Sto_rowsBelow.2.1 45 = .ok (.getfield 56, 3) := by decide +kernel
theorem d_Sto_rowsBelow_48 : decode m_Sto_rowsBelow.2.1 48 = .ok (.iload 8, 2) := by decide +kernel
theorem d_Sto_rowsBelow_50 : decode m_Sto_rowsBelow.2.1 50 = .ok (.iaload, 1) := by decide +kernel
theorem d_Sto_rowsBelow_51 : decode m_Sto_rowsBelow.2.1 51 = .ok (.laload, 1) := by decide +kernel
theorem d_Sto_rowsBelow_52 : decode m_Sto_rowsBelow.2.1 52 = .ok (.lstore 9, 2) := by decide +kernel
theorem d_Sto_rowsBelow_54 : decode m_Sto_rowsBelow.2.1 54 = .ok (.lload 9, 2) := by decide +kernel
theorem d_Sto_rowsBelow_56 : decode m_Sto_rowsBelow.2.1 56 = .ok (.lload_n 2, 1) := by decide +kernel
theorem d_Sto_rowsBelow_57 : decode m_Sto_rowsBelow.2.1 57 = .ok (.lcmp, 1) := by decide +kernel
theorem d_Sto_rowsBelow_58 : decode m_Sto_rowsBelow.2.1 58 = .ok (.ifCond .lt 15, 3) := by decide +kernel
theorem d_Sto_rowsBelow_61 : decode m_Sto_rowsBelow.2.1 61 = .ok (.iload 4, 2) := by decide +kernel
theorem d_Sto_rowsBelow_63 : decode m_Sto_rowsBelow.2.1 63 = .ok (.ifCond .eq 17, 3) := by decide +kernel
theorem d_Sto_rowsBelow_66 : decode m_Sto_rowsBelow.2.1 66 = .ok (.lload 9, 2) := by decide +kernel
theorem d_Sto_rowsBelow_68 : decode m_Sto_rowsBelow.2.1 68 = .ok (.lload_n 2, 1) := by decide +kernel
theorem d_Sto_rowsBelow_69 : decode m_Sto_rowsBelow.2.1 69 = .ok (.lcmp, 1) := by decide +kernel
theorem d_Sto_rowsBelow_70 : decode m_Sto_rowsBelow.2.1 70 = .ok (.ifCond .ne 10, 3) := by decide +kernel
theorem d_Sto_rowsBelow_73 : decode m_Sto_rowsBelow.2.1 73 = .ok (.iload 6, 2) := by decide +kernel
theorem d_Sto_rowsBelow_75 : decode m_Sto_rowsBelow.2.1 75 = .ok (.iload 7, 2) := by decide +kernel
theorem d_Sto_rowsBelow_77 : decode m_Sto_rowsBelow.2.1 77 = .ok (.iadd, 1) := by decide +kernel
theorem d_Sto_rowsBelow_78 : decode m_Sto_rowsBelow.2.1 78 = .ok (.istore 6, 2) := by decide +kernel
theorem d_Sto_rowsBelow_80 : decode m_Sto_rowsBelow.2.1 80 = .ok (.iload 7, 2) := by decide +kernel
theorem d_Sto_rowsBelow_82 : decode m_Sto_rowsBelow.2.1 82 = .ok (.iconst 2, 1) := by decide +kernel
theorem d_Sto_rowsBelow_83 : decode m_Sto_rowsBelow.2.1 83 = .ok (.idiv, 1) := by decide +kernel
theorem d_Sto_rowsBelow_84 : decode m_Sto_rowsBelow.2.1 84 = .ok (.istore 7, 2) := by decide +kernel
theorem d_Sto_rowsBelow_86 : decode m_Sto_rowsBelow.2.1 86 = .ok (.goto (-71), 3) := by decide +kernel
theorem d_Sto_rowsBelow_89 : decode m_Sto_rowsBelow.2.1 89 = .ok (.iload 6, 2) := by decide +kernel
theorem d_Sto_rowsBelow_91 : decode m_Sto_rowsBelow.2.1 91 = .ok (.ireturn, 1) := by decide +kernel
theorem d_Sto_isAt_0 : decode m_Sto_isAt.2.1 0 = .ok (.aload_n 0, 1) := by decide +kernel
theorem d_Sto_isAt_1 : decode m_Sto_isAt.2.1 1 = .ok (.getfield 11, 3) := by decide +kernel
theorem d_Sto_isAt_4 : decode m_Sto_isAt.2.1 4 = .ok (.iload_n 1, 1) := by decide +kernel
theorem d_Sto_isAt_5 : decode m_Sto_isAt.2.1 5 = .ok (.aaload, 1) := by decide +kernel
theorem d_Sto_isAt_6 : decode m_Sto_isAt.2.1 6 = .ok (.astore 5, 2) := by decide +kernel
theorem d_Sto_isAt_8 : decode m_Sto_isAt.2.1 8 = .ok (.iload_n 2, 1) := by decide +kernel
theorem d_Sto_isAt_9 : decode m_Sto_isAt.2.1 9 = .ok (.aload 5, 2) := by decide +kernel
theorem d_Sto_isAt_11 : decode m_Sto_isAt.2.1 11 = .ok (.getfield 53, 3) := by decide +kernel
theorem d_Sto_isAt_14 : decode m_Sto_isAt.2.1 14 = .ok (.if_icmp .ge 24, 3) := by decide +kernel
theorem d_Sto_isAt_17 : decode m_Sto_isAt.2.1 17 = .ok (.aload_n 0, 1) := by decide +kernel
theorem d_Sto_isAt_18 : decode m_Sto_isAt.2.1 18 = .ok (.getfield 30, 3) := by decide +kernel
theorem d_Sto_isAt_21 : decode m_Sto_isAt.2.1 21 = .ok (.aload 5, 2) := by decide +kernel
theorem d_Sto_isAt_23 : decode m_Sto_isAt.2.1 23 = .ok (.getfield 56, 3) := by decide +kernel
theorem d_Sto_isAt_26 : decode m_Sto_isAt.2.1 26 = .ok (.iload_n 2, 1) := by decide +kernel
theorem d_Sto_isAt_27 : decode m_Sto_isAt.2.1 27 = .ok (.iaload, 1) := by decide +kernel
theorem d_Sto_isAt_28 : decode m_Sto_isAt.2.1 28 = .ok (.laload, 1) := by decide +kernel
theorem d_Sto_isAt_29 : decode m_Sto_isAt.2.1 29 = .ok (.lload_n 3, 1) := by decide +kernel
theorem d_Sto_isAt_30 : decode m_Sto_isAt.2.1 30 = .ok (.lcmp, 1) := by decide +kernel
theorem d_Sto_isAt_31 : decode m_Sto_isAt.2.1 31 = .ok (.ifCond .ne 7, 3) := by decide +kernel
theorem d_Sto_isAt_34 : decode m_Sto_isAt.2.1 34 = .ok (.iconst 1, 1) := by decide +kernel
theorem d_Sto_isAt_35 : decode m_Sto_isAt.2.1 35 = .ok (.goto 4, 3) := by decide +kernel
theorem d_Sto_isAt_38 : decode m_Sto_isAt.2.1 38 = .ok (.iconst 0, 1) := by decide +kernel
theorem d_Sto_isAt_39 : decode m_Sto_isAt.2.1 39 = .ok (.ireturn, 1) := by decide +kernel
theorem d_Sto_drop_0 : decode m_Sto_drop.2.1 0 = .ok (.aload_n 0, 1) := by decide +kernel
theorem d_Sto_drop_1 : decode m_Sto_drop.2.1 1 = .ok (.iload_n 1, 1) := by decide +kernel
theorem d_Sto_drop_2 : decode m_Sto_drop.2.1 2 = .ok (.lload_n 2, 1) := by decide +kernel
theorem d_Sto_drop_3 : decode m_Sto_drop.2.1 3 = .ok (.iconst 0, 1) := by decide +kernel
theorem d_Sto_drop_4 : decode m_Sto_drop.2.1 4 = .ok (.invokevirtual 59, 3) := by decide +kernel
theorem d_Sto_drop_7 : decode m_Sto_drop.2.1 7 = .ok (.istore 4, 2) := by decide +kernel
theorem d_Sto_drop_9 : decode m_Sto_drop.2.1 9 = .ok (.aload_n 0, 1) := by decide +kernel
theorem d_Sto_drop_10 : decode m_Sto_drop.2.1 10 = .ok (.iload_n 1, 1) := by decide +kernel
theorem d_Sto_drop_11 : decode m_Sto_drop.2.1 11 = .ok (.iload 4, 2) := by decide +kernel
theorem d_Sto_drop_13 : decode m_Sto_drop.2.1 13 = .ok (.lload_n 2, 1) := by decide +kernel
theorem d_Sto_drop_14 : decode m_Sto_drop.2.1 14 = .ok (.invokevirtual 63, 3) := by decide +kernel
theorem d_Sto_drop_17 : decode m_Sto_drop.2.1 17 = .ok (.ifCond .ne 5, 3) := by decide +kernel
theorem d_Sto_drop_20 : decode m_Sto_drop.2.1 20 = .ok (.iconst 0, 1) := by decide +kernel
theorem d_Sto_drop_21 : decode m_Sto_drop.2.1 21 = .ok (.ireturn, 1) := by decide +kernel
theorem d_Sto_drop_22 : decode m_Sto_drop.2.1 22 = .ok (.aload_n 0, 1) := by decide +kernel
theorem d_Sto_drop_23 : decode m_Sto_drop.2.1 23 = .ok (.getfield 34, 3) := by decide +kernel
theorem d_Sto_drop_26 : decode m_Sto_drop.2.1 26 = .ok (.aload_n 0, 1) := by decide +kernel
theorem d_Sto_drop_27 : decode m_Sto_drop.2.1 27 = .ok (.getfield 38, 3) := by decide +kernel
theorem d_Sto_drop_30 : decode m_Sto_drop.2.1 30 = .ok (.aload_n 0, 1) := by decide +kernel
theorem d_Sto_drop_31 : decode m_Sto_drop.2.1 31 = .ok (.getfield 11, 3) := by decide +kernel
theorem d_Sto_drop_34 : decode m_Sto_drop.2.1 34 = .ok (.iload_n 1, 1) := by decide +kernel
theorem d_Sto_drop_35 : decode m_Sto_drop.2.1 35 = .ok (.aaload, 1) := by decide +kernel
theorem d_Sto_drop_36 : decode m_Sto_drop.2.1 36 = .ok (.getfield 56, 3) := by decide +kernel
theorem d_Sto_drop_39 : decode m_Sto_drop.2.1 39 = .ok (.iload 4, 2) := by decide +kernel
theorem d_Sto_drop_41 : decode m_Sto_drop.2.1 41 = .ok (.iaload, 1) := by decide +kernel
theorem d_Sto_drop_42 : decode m_Sto_drop.2.1 42 = .ok (.iastore, 1) := by decide +kernel
theorem d_Sto_drop_43 : decode m_Sto_drop.2.1 43 = .ok (.aload_n 0, 1) := by decide +kernel
theorem d_Sto_drop_44 : decode m_Sto_drop.2.1 44 = .ok (.dup, 1) := by decide +kernel
theorem d_Sto_drop_45 : decode m_Sto_drop.2.1 45 = .ok (.getfield 38, 3) := by decide +kernel
theorem d_Sto_drop_48 : decode m_Sto_drop.2.1 48 = .ok (.iconst 1, 1) := by decide +kernel
theorem d_Sto_drop_49 : decode m_Sto_drop.2.1 49 = .ok (.iadd, 1) := by decide +kernel
theorem d_Sto_drop_50 : decode m_Sto_drop.2.1 50 = .ok (.putfield 38, 3) := by decide +kernel
theorem d_Sto_drop_53 : decode m_Sto_drop.2.1 53 = .ok (.aload_n 0, 1) := by decide +kernel
theorem d_Sto_drop_54 : decode m_Sto_drop.2.1 54 = .ok (.getfield 11, 3) := by decide +kernel
theorem d_Sto_drop_57 : decode m_Sto_drop.2.1 57 = .ok (.iload_n 1, 1) := by decide +kernel
theorem d_Sto_drop_58 : decode m_Sto_drop.2.1 58 = .ok (.aaload, 1) := by decide +kernel
theorem d_Sto_drop_59 : decode m_Sto_drop.2.1 59 = .ok (.iload 4, 2) := by decide +kernel
theorem d_Sto_drop_61 : decode m_Sto_drop.2.1 61 = .ok (.invokevirtual 79, 3) := by decide +kernel
theorem d_Sto_drop_64 : decode m_Sto_drop.2.1 64 = .ok (.iconst 1, 1) := by decide +kernel
theorem d_Sto_drop_65 : decode m_Sto_drop.2.1 65 = .ok (.ireturn, 1) := by decide +kernel
theorem d_Sto_hasPlace_0 : decode m_Sto_hasPlace.2.1 0 = .ok (.iload_n 2, 1) := by decide +kernel
theorem d_Sto_hasPlace_1 : decode m_Sto_hasPlace.2.1 1 = .ok (.aload_n 0, 1) := by decide +kernel
theorem d_Sto_hasPlace_2 : decode m_Sto_hasPlace.2.1 2 = .ok (.getfield 11, 3) := by decide +kernel
theorem d_Sto_hasPlace_5 : decode m_Sto_hasPlace.2.1 5 = .ok (.iload_n 1, 1) := by decide +kernel
theorem d_Sto_hasPlace_6 : decode m_Sto_hasPlace.2.1 6 = .ok (.aaload, 1) := by decide +kernel
theorem d_Sto_hasPlace_7 : decode m_Sto_hasPlace.2.1 7 = .ok (.getfield 53, 3) := by decide +kernel
theorem d_Sto_hasPlace_10 : decode m_Sto_hasPlace.2.1 10 = .ok (.if_icmp .ge 7, 3) := by decide +kernel
theorem d_Sto_hasPlace_13 : decode m_Sto_hasPlace.2.1 13 = .ok (.iconst 1, 1) := by decide +kernel
theorem d_Sto_hasPlace_14 : decode m_Sto_hasPlace.2.1 14 = .ok (.goto 4, 3) := by decide +kernel
theorem d_Sto_hasPlace_17 : decode m_Sto_hasPlace.2.1 17 = .ok (.iconst 0, 1) := by decide +kernel
theorem d_Sto_hasPlace_18 : decode m_Sto_hasPlace.2.1 18 = .ok (.ireturn, 1) := by decide +kernel
theorem d_Sto_keyAt_0 : decode m_Sto_keyAt.2.1 0 = .ok (.aload_n 0, 1) := by decide +kernel
theorem d_Sto_keyAt_1 : decode m_Sto_keyAt.2.1 1 = .ok (.getfield 30, 3) := by decide +kernel
theorem d_Sto_keyAt_4 : decode m_Sto_keyAt.2.1 4 = .ok (.aload_n 0, 1) := by decide +kernel
theorem d_Sto_keyAt_5 : decode m_Sto_keyAt.2.1 5 = .ok (.getfield 11, 3) := by decide +kernel
theorem d_Sto_keyAt_8 : decode m_Sto_keyAt.2.1 8 = .ok (.iload_n 1, 1) := by decide +kernel
theorem d_Sto_keyAt_9 : decode m_Sto_keyAt.2.1 9 = .ok (.aaload, 1) := by decide +kernel
theorem d_Sto_keyAt_10 : decode m_Sto_keyAt.2.1 10 = .ok (.getfield 56, 3) := by decide +kernel
theorem d_Sto_keyAt_13 : decode m_Sto_keyAt.2.1 13 = .ok (.iload_n 2, 1) := by decide +kernel
theorem d_Sto_keyAt_14 : decode m_Sto_keyAt.2.1 14 = .ok (.iaload, 1) := by decide +kernel
theorem d_Sto_keyAt_15 : decode m_Sto_keyAt.2.1 15 = .ok (.laload, 1) := by decide +kernel
theorem d_Sto_keyAt_16 : decode m_Sto_keyAt.2.1 16 = .ok (.lreturn, 1) := by decide +kernel
theorem d_Sto_slotOf_0 : decode m_Sto_slotOf.2.1 0 = .ok (.aload_n 0, 1) := by decide +kernel
theorem d_Sto_slotOf_1 : decode m_Sto_slotOf.2.1 1 = .ok (.iload_n 1, 1) := by decide +kernel
theorem d_Sto_slotOf_2 : decode m_Sto_slotOf.2.1 2 = .ok (.lload_n 2, 1) := by decide +kernel
theorem d_Sto_slotOf_3 : decode m_Sto_slotOf.2.1 3 = .ok (.iconst 0, 1) := by decide +kernel
theorem d_Sto_slotOf_4 : decode m_Sto_slotOf.2.1 4 = .ok (.invokevirtual 59, 3) := by decide +kernel
theorem d_Sto_slotOf_7 : decode m_Sto_slotOf.2.1 7 = .ok (.istore 4, 2) := by decide +kernel
theorem d_Sto_slotOf_9 : decode m_Sto_slotOf.2.1 9 = .ok (.aload_n 0, 1) := by decide +kernel
theorem d_Sto_slotOf_10 : decode m_Sto_slotOf.2.1 10 = .ok (.iload_n 1, 1) := by decide +kernel
theorem d_Sto_slotOf_11 : decode m_Sto_slotOf.2.1 11 = .ok (.iload 4, 2) := by decide +kernel
theorem d_Sto_slotOf_13 : decode m_Sto_slotOf.2.1 13 = .ok (.lload_n 2, 1) := by decide +kernel
theorem d_Sto_slotOf_14 : decode m_Sto_slotOf.2.1 14 = .ok (.invokevirtual 63, 3) := by decide +kernel
theorem d_Sto_slotOf_17 : decode m_Sto_slotOf.2.1 17 = .ok (.ifCond .eq 18, 3) := by decide +kernel
theorem d_Sto_slotOf_20 : decode m_Sto_slotOf.2.1 20 = .ok (.aload_n 0, 1) := by decide +kernel
theorem d_Sto_slotOf_21 : decode m_Sto_slotOf.2.1 21 = .ok (.getfield 11, 3) := by decide +kernel
theorem d_Sto_slotOf_24 : decode m_Sto_slotOf.2.1 24 = .ok (.iload_n 1, 1) := by decide +kernel
theorem d_Sto_slotOf_25 : decode m_Sto_slotOf.2.1 25 = .ok (.aaload, 1) := by decide +kernel
theorem d_Sto_slotOf_26 : decode m_Sto_slotOf.2.1 26 = .ok (.getfield 56, 3) := by decide +kernel
theorem d_Sto_slotOf_29 : decode m_Sto_slotOf.2.1 29 = .ok (.iload 4, 2) := by decide +kernel
theorem d_Sto_slotOf_31 : decode m_Sto_slotOf.2.1 31 = .ok (.iaload, 1) := by decide +kernel
theorem d_Sto_slotOf_32 : decode m_Sto_slotOf.2.1 32 = .ok (.goto 4, 3) := by decide +kernel
theorem d_Sto_slotOf_35 : decode m_Sto_slotOf.2.1 35 = .ok (.iconst (-1), 1) := by decide +kernel
theorem d_Sto_slotOf_36 : decode m_Sto_slotOf.2.1 36 = .ok (.ireturn, 1) := by decide +kernel
