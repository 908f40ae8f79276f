theorem d_Mod_init_0 : decode m_Mod_init.2.1 0 = .ok (.aload_n 0, 1) := by decide +kernel
theorem d_Mod_init_1 : decode m_Mod_init.2.1 1 = .ok (.invokespecial 1, 3) := by decide +kernel
theorem d_Mod_init_4 : decode m_Mod_init.2.1 4 = .ok (.aload_n 0, 1) := by decide +kernel
theorem d_Mod_init_5 : decode m_Mod_init.2.1 5 = .ok (.iconst 3, 1) := by decide +kernel
theorem d_Mod_init_6 : decode m_Mod_init.2.1 6 = .ok (.newarray .int, 2) := by decide +kernel
theorem d_Mod_init_8 : decode m_Mod_init.2.1 8 = .ok (.putfield 7, 3) := by decide +kernel
theorem d_Mod_init_11 : decode m_Mod_init.2.1 11 = .ok (.aload_n 0, 1) := by decide +kernel
theorem d_Mod_init_12 : decode m_Mod_init.2.1 12 = .ok (.bipush 90, 2) := by decide +kernel
theorem d_Mod_init_14 : decode m_Mod_init.2.1 14 = .ok (.newarray .int, 2) := by decide +kernel
theorem d_Mod_init_16 : decode m_Mod_init.2.1 16 = .ok (.putfield 13, 3) := by decide +kernel
theorem d_Mod_init_19 : decode m_Mod_init.2.1 19 = .ok (.aload_n 0, 1) := by decide +kernel
theorem d_Mod_init_20 : decode m_Mod_init.2.1 20 = .ok (.bipush 90, 2) := by decide +kernel
theorem d_Mod_init_22 : decode m_Mod_init.2.1 22 = .ok (.newarray .long, 2) := by decide +kernel
theorem d_Mod_init_24 : decode m_Mod_init.2.1 24 = .ok (.putfield 16, 3) := by decide +kernel
theorem d_Mod_init_27 : decode m_Mod_init.2.1 27 = .ok (.aload_n 0, 1) := by decide +kernel
theorem d_Mod_init_28 : decode m_Mod_init.2.1 28 = .ok (.sipush 360, 3) := by decide +kernel
theorem d_Mod_init_31 : decode m_Mod_init.2.1 31 = .ok (.newarray .long, 2) := by decide +kernel
theorem d_Mod_init_33 : decode m_Mod_init.2.1 33 = .ok (.putfield 20, 3) := by decide +kernel
theorem d_Mod_init_36 : decode m_Mod_init.2.1 36 = .ok (.aload_n 0, 1) := by decide +kernel
theorem d_Mod_init_37 : decode m_Mod_init.2.1 37 = .ok (.sipush 360, 3) := by decide +kernel
theorem d_Mod_init_40 : decode m_Mod_init.2.1 40 = .ok (.newarray .boolean, 2) := by decide +kernel
theorem d_Mod_init_42 : decode m_Mod_init.2.1 42 = .ok (.putfield 23, 3) := by decide +kernel
theorem d_Mod_init_45 : decode m_Mod_init.2.1 45 = .ok (.aload_n 0, 1) := by decide +kernel
theorem d_Mod_init_46 : decode m_Mod_init.2.1 46 = .ok (.iconst 4, 1) := by decide +kernel
theorem d_Mod_init_47 : decode m_Mod_init.2.1 47 = .ok (.newarray .long, 2) := by decide +kernel
theorem d_Mod_init_49 : decode m_Mod_init.2.1 49 = .ok (.putfield 27, 3) := by decide +kernel
theorem d_Mod_init_52 : decode m_Mod_init.2.1 52 = .ok (.aload_n 0, 1) := by decide +kernel
theorem d_Mod_init_53 : decode m_Mod_init.2.1 53 = .ok (.iconst 4, 1) := by decide +kernel
theorem d_Mod_init_54 : decode m_Mod_init.2.1 54 = .ok (.newarray .boolean, 2) := by decide +kernel
theorem d_Mod_init_56 : decode m_Mod_init.2.1 56 = .ok (.putfield 30, 3) := by decide +kernel
theorem d_Mod_init_59 : decode m_Mod_init.2.1 59 = .ok (.aload_n 0, 1) := by decide +kernel
theorem d_Mod_init_60 : decode m_Mod_init.2.1 60 = .ok (.sipush 240, 3) := by decide +kernel
theorem d_Mod_init_63 : decode m_Mod_init.2.1 63 = .ok (.newarray .int, 2) := by decide +kernel
theorem d_Mod_init_65 : decode m_Mod_init.2.1 65 = .ok (.putfield 33, 3) := by decide +kernel
theorem d_Mod_init_68 : decode m_Mod_init.2.1 68 = .ok (.aload_n 0, 1) := by decide +kernel
theorem d_Mod_init_69 : decode m_Mod_init.2.1 69 = .ok (.bipush 16, 2) := by decide +kernel
theorem d_Mod_init_71 : decode m_Mod_init.2.1 71 = .ok (.newarray .long, 2) := by decide +kernel
theorem d_Mod_init_73 : decode m_Mod_init.2.1 73 = .ok (.putfield 36, 3) := by decide +kernel
theorem d_Mod_init_76 : decode m_Mod_init.2.1 76 = .ok (.aload_n 0, 1) := by decide +kernel
theorem d_Mod_init_77 : decode m_Mod_init.2.1 77 = .ok (.bipush 16, 2) := by decide +kernel
theorem d_Mod_init_79 : decode m_Mod_init.2.1 79 = .ok (.newarray .boolean, 2) := by decide +kernel
theorem d_Mod_init_81 : decode m_Mod_init.2.1 81 = .ok (.putfield 39, 3) := by decide +kernel
theorem d_Mod_init_84 : decode m_Mod_init.2.1 84 = .ok (.aload_n 0, 1) := by decide +kernel
theorem d_Mod_init_85 : decode m_Mod_init.2.1 85 = .ok (.iconst 3, 1) := by decide +kernel
theorem d_Mod_init_86 : decode m_Mod_init.2.1 86 = .ok (.newarray .int, 2) := by decide +kernel
theorem d_Mod_init_88 : decode m_Mod_init.2.1 88 = .ok (.putfield 42, 3) := by decide +kernel
theorem d_Mod_init_91 : decode m_Mod_init.2.1 91 = .ok (.aload_n 0, 1) := by decide +kernel
theorem d_Mod_init_92 : decode m_Mod_init.2.1 92 = .ok (.iconst 3, 1) := by decide +kernel
theorem d_Mod_init_93 : decode m_Mod_init.2.1 93 = .ok (.newarray .boolean, 2) := by decide +kernel
theorem d_Mod_init_95 : decode m_Mod_init.2.1 95 = .ok (.putfield 45, 3) := by decide +kernel
theorem d_Mod_init_98 : decode m_Mod_init.2.1 98 = .ok (.aload_n 0, 1) := by decide +kernel
theorem d_Mod_init_99 : decode m_Mod_init.2.1 99 = .ok (.iconst 3, 1) := by decide +kernel
theorem d_Mod_init_100 : decode m_Mod_init.2.1 100 = .ok (.newarray .long, 2) := by decide +kernel
theorem d_Mod_init_102 : decode m_Mod_init.2.1 102 = .ok (.putfield 48, 3) := by decide +kernel
theorem d_Mod_init_105 : decode m_Mod_init.2.1 105 = .ok (.aload_n 0, 1) := by decide +kernel
theorem d_Mod_init_106 : decode m_Mod_init.2.1 106 = .ok (.bipush 64, 2) := by decide +kernel
theorem d_Mod_init_108 : decode m_Mod_init.2.1 108 = .ok (.newarray .int, 2) := by decide +kernel
theorem d_Mod_init_110 : decode m_Mod_init.2.1 110 = .ok (.putfield 51, 3) := by decide +kernel
theorem d_Mod_init_113 : decode m_Mod_init.2.1 113 = .ok (.aload_n 0, 1) := by decide +kernel
theorem d_Mod_init_114 : decode m_Mod_init.2.1 114 = .ok (.sipush 256, 3) := by decide +kernel
theorem d_Mod_init_117 : decode m_Mod_init.2.1 117 = .ok (.newarray .long, 2) := by decide +kernel
theorem d_Mod_init_119 : decode m_Mod_init.2.1 119 = .ok (.putfield 54, 3) := by decide +kernel
theorem d_Mod_init_122 : decode m_Mod_init.2.1 122 = .ok (.aload_n 0, 1) := by decide +kernel
theorem d_Mod_init_123 : decode m_Mod_init.2.1 123 = .ok (.sipush 256, 3) := by decide +kernel
theorem d_Mod_init_126 : decode m_Mod_init.2.1 126 = .ok (.newarray .boolean, 2) := by decide +kernel
theorem d_Mod_init_128 : decode m_Mod_init.2.1 128 = .ok (.putfield 57, 3) := by decide +kernel
theorem d_Mod_init_131 : decode m_Mod_init.2.1 131 = .ok (.aload_n 0, 1) := by decide +kernel
theorem d_Mod_init_132 : decode m_Mod_init.2.1 132 = .ok (.iconst (-1), 1) := by decide +kernel
theorem d_Mod_init_133 : decode m_Mod_init.2.1 133 = .ok (.putfield 60, 3) := by decide +kernel
theorem d_Mod_init_136 : decode m_Mod_init.2.1 136 = .ok (.aload_n 0, 1) := by decide +kernel
theorem d_Mod_init_137 : decode m_Mod_init.2.1 137 = .ok (.iconst (-1), 1) := by decide +kernel
theorem d_Mod_init_138 : decode m_Mod_init.2.1 138 = .ok (.putfield 64, 3) := by decide +kernel
theorem d_Mod_init_141 : decode m_Mod_init.2.1 141 = .ok (.aload_n 0, 1) := by decide +kernel
theorem d_Mod_init_142 : decode m_Mod_init.2.1 142 = .ok (.bipush 8, 2) := by decide +kernel
theorem d_Mod_init_144 : decode m_Mod_init.2.1 144 = .ok (.newarray .int, 2) := by decide +kernel
theorem d_Mod_init_146 : decode m_Mod_init.2.1 146 = .ok (.putfield 67, 3) := by decide +kernel
theorem d_Mod_init_149 : decode m_Mod_init.2.1 149 = .ok (.aload_n 0, 1) := by decide +kernel
theorem d_Mod_init_150 : decode m_Mod_init.2.1 150 = .ok (.bipush 16, 2) := by decide +kernel
theorem d_Mod_init_152 : decode m_Mod_init.2.1 152 = .ok (.newarray .int, 2) := by decide +kernel
theorem d_Mod_init_154 : decode m_Mod_init.2.1 154 = .ok (.putfield 70, 3) := by decide +kernel
theorem d_Mod_init_157 : decode m_Mod_init.2.1 157 = .ok (.return_, 1) := by decide +kernel
theorem d_Mod_thrown_0 : decode m_Mod_thrown.2.1 0 = .ok (.aload_n 0, 1) := by decide +kernel
theorem d_Mod_thrown_1 : decode m_Mod_thrown.2.1 1 = .ok (.getfield 73, 3) := by decide +kernel
theorem d_Mod_thrown_4 : decode m_Mod_thrown.2.1 4 = .ok (.ireturn, 1) := by decide +kernel
theorem d_Mod_table_0 : decode m_Mod_table.2.1 0 = .ok (.aload_n 0, 1) := by decide +kernel
theorem d_Mod_table_1 : decode m_Mod_table.2.1 1 = .ok (.iload_n 1, 1) := by decide +kernel
theorem d_Mod_table_2 : decode m_Mod_table.2.1 2 = .ok (.iconst 1, 1) := by decide +kernel
theorem d_Mod_table_3 : decode m_Mod_table.2.1 3 = .ok (.if_icmp .lt 8, 3) := by decide +kernel
theorem d_Mod_table_6 : decode m_Mod_table.2.1 6 = .ok (.iload_n 1, 1) := by decide +kernel
theorem d_Mod_table_7 : decode m_Mod_table.2.1 7 = .ok (.iconst 4, 1) := by decide +kernel
theorem d_Mod_table_8 : decode m_Mod_table.2.1 8 = .ok (.if_icmp .le 7, 3) := by decide +kernel
theorem d_Mod_table_11 : decode m_Mod_table.2.1 11 = .ok (.iconst 1, 1) := by decide +kernel
theorem d_Mod_table_12 : decode m_Mod_table.2.1 12 = .ok (.goto 16, 3) := by decide +kernel
theorem d_Mod_table_15 : decode m_Mod_table.2.1 15 = .ok (.aload_n 0, 1) := by decide +kernel
theorem d_Mod_table_16 : decode m_Mod_table.2.1 16 = .ok (.getfield 76, 3) := by decide +kernel
theorem d_Mod_table_19 : decode m_Mod_table.2.1 19 = .ok (.iconst 3, 1) := by decide +kernel
theorem d_Mod_table_20 : decode m_Mod_table.2.1 20 = .ok (.if_icmp .ne 7, 3) := by decide +kernel
theorem d_Mod_table_23 : decode m_Mod_table.2.1 23 = .ok (.iconst 2, 1) := by decide +kernel
theorem d_Mod_table_24 : decode m_Mod_table.2.1 24 = .ok (.goto 4, 3) := by decide +kernel
theorem d_Mod_table_27 : decode m_Mod_table.2.1 27 = .ok (.iconst 0, 1) := by decide +kernel
theorem d_Mod_table_28 : decode m_Mod_table.2.1 28 = .ok (.putfield 73, 3) := by decide +kernel
theorem d_Mod_table_31 : decode m_Mod_table.2.1 31 = .ok (.aload_n 0, 1) := by decide +kernel
theorem d_Mod_table_32 : decode m_Mod_table.2.1 32 = .ok (.getfield 73, 3) := by decide +kernel
theorem d_Mod_table_35 : decode m_Mod_table.2.1 35 = .ok (.ifCond .le 5, 3) := by decide +kernel
theorem d_Mod_table_38 : decode m_Mod_table.2.1 38 = .ok (.iconst 0, 1) := by decide +kernel
theorem d_Mod_table_39 : decode m_Mod_table.2.1 39 = .ok (.ireturn, 1) := by decide +kernel
theorem d_Mod_table_40 : decode m_Mod_table.2.1 40 = .ok (.aload_n 0, 1) := by decide +kernel
theorem d_Mod_table_41 : decode m_Mod_table.2.1 41 = .ok (.getfield 7, 3) := by decide +kernel
theorem d_Mod_table_44 : decode m_Mod_table.2.1 44 = .ok (.aload_n 0, 1) := by decide +kernel
theorem d_Mod_table_45 : decode m_Mod_table.2.1 45 = .ok (.getfield 76, 3) := by decide +kernel
theorem d_Mod_table_48 : decode m_Mod_table.2.1 48 = .ok (.iload_n 1, 1) := by decide +kernel
theorem d_Mod_table_49 : decode m_Mod_table.2.1 49 = .ok (.iastore, 1) := by decide +kernel
theorem d_Mod_table_50 : decode m_Mod_table.2.1 50 = .ok (.aload_n 0, 1) := by decide +kernel
theorem d_Mod_table_51 : decode m_Mod_table.2.1 51 = .ok (.dup, 1) := by decide +kernel
theorem d_Mod_table_52 : decode m_Mod_table.2.1 52 = .ok (.getfield 76, 3) := by decide +kernel
theorem d_Mod_table_55 : decode m_Mod_table.2.1 55 = .ok (.iconst 1, 1) := by decide +kernel
theorem d_Mod_table_56 : decode m_Mod_table.2.1 56 = .ok (.iadd, 1) := by decide +kernel
theorem d_Mod_table_57 : decode m_Mod_table.2.1 57 = .ok (.putfield 76, 3) := by decide +kernel
theorem d_Mod_table_60 : decode m_Mod_table.2.1 60 = .ok (.aload_n 0, 1) := by decide +kernel
theorem d_Mod_table_61 : decode m_Mod_table.2.1 61 = .ok (.getfield 76, 3) := by decide +kernel
theorem d_Mod_table_64 : decode m_Mod_table.2.1 64 = .ok (.iconst 1, 1) := by decide +kernel
theorem d_Mod_table_65 : decode m_Mod_table.2.1 65 = .ok (.isub, 1) := by decide +kernel
theorem d_Mod_table_66 : decode m_Mod_table.2.1 66 = .ok (.ireturn, 1) := by decide +kernel
theorem d_Mod_set_0 : decode m_Mod_set.2.1 0 = .ok (.aload_n 0, 1) := by decide +kernel
theorem d_Mod_set_1 : decode m_Mod_set.2.1 1 = .ok (.iconst 0, 1) := by decide +kernel
theorem d_Mod_set_2 : decode m_Mod_set.2.1 2 = .ok (.putfield 73, 3) := by decide +kernel
theorem d_Mod_set_5 : decode m_Mod_set.2.1 5 = .ok (.iload_n 1, 1) := by decide +kernel
theorem d_Mod_set_6 : decode m_Mod_set.2.1 6 = .ok (.ifCond .lt 8, 3) := by decide +kernel
theorem d_Mod_set_9 : decode m_Mod_set.2.1 9 = .ok (.iload_n 1, 1) := by decide +kernel
theorem d_Mod_set_10 : decode m_Mod_set.2.1 10 = .ok (.iconst 3, 1) := by decide +kernel
theorem d_Mod_set_11 : decode m_Mod_set.2.1 11 = .ok (.if_icmp .le 5, 3) := by decide +kernel
theorem d_Mod_set_14 : decode m_Mod_set.2.1 14 = .ok (.iconst 0, 1) := by decide +kernel
theorem d_Mod_set_15 : decode m_Mod_set.2.1 15 = .ok (.ireturn, 1) := by decide +kernel
theorem d_Mod_set_16 : decode m_Mod_set.2.1 16 = .ok (.aload_n 0, 1) := by decide +kernel
theorem d_Mod_set_17 : decode m_Mod_set.2.1 17 = .ok (.getfield 30, 3) := by decide +kernel
theorem d_Mod_set_20 : decode m_Mod_set.2.1 20 = .ok (.iload_n 1, 1) := by decide +kernel
theorem d_Mod_set_21 : decode m_Mod_set.2.1 21 = .ok (.iload_n 2, 1) := by decide +kernel
theorem d_Mod_set_22 : decode m_Mod_set.2.1 22 = .ok (.bastore, 1) := by decide +kernel
theorem d_Mod_set_23 : decode m_Mod_set.2.1 23 = .ok (.aload_n 0, 1) := by decide +kernel
theorem d_Mod_set_24 : decode m_Mod_set.2.1 24 = .ok (.getfield 27, 3) := by decide +kernel
theorem d_Mod_set_27 : decode m_Mod_set.2.1 27 = .ok (.iload_n 1, 1) := by decide +kernel
theorem d_Mod_set_28 : decode m_Mod_set.2.1 28 = .ok (.iload_n 2, 1) := by decide +kernel
theorem d_Mod_set_29 : decode m_Mod_set.2.1 29 = .ok (.ifCond .eq 7, 3) := by decide +kernel
theorem d_Mod_set_32 : decode m_Mod_set.2.1 32 = .ok (.lload_n 3, 1) := by decide +kernel
theorem d_Mod_set_33 : decode m_Mod_set.2.1 33 = .ok (.goto 4, 3) := by decide +kernel
theorem d_Mod_set_36 : decode m_Mod_set.2.1 36 = .ok (.lconst 0, 1) := by decide +kernel
theorem d_Mod_set_37 : decode m_Mod_set.2.1 37 = .ok (.lastore, 1) := by decide +kernel
theorem d_Mod_set_38 : decode m_Mod_set.2.1 38 = .ok (.iconst 1, 1) := by decide +kernel
theorem d_Mod_set_39 : decode m_Mod_set.2.1 39 = .ok (.ireturn, 1) := by decide +kernel
theorem d_Mod_insert_0 : decode m_Mod_insert.2.1 0 = .ok (.aload_n 0, 1) := by decide +kernel
theorem d_Mod_insert_1 : decode m_Mod_insert.2.1 1 = .ok (.aload_n 0, 1) := by decide +kernel
theorem d_Mod_insert_2 : decode m_Mod_insert.2.1 2 = .ok (.iload_n 1, 1) := by decide +kernel
theorem d_Mod_insert_3 : decode m_Mod_insert.2.1 3 = .ok (.invokevirtual 82, 3) := by decide +kernel
theorem d_Mod_insert_6 : decode m_Mod_insert.2.1 6 = .ok (.ifCond .ne 7, 3) := by decide +kernel
theorem d_Mod_insert_9 : decode m_Mod_insert.2.1 9 = .ok (.iconst 1, 1) := by decide +kernel
theorem d_Mod_insert_10 : decode m_Mod_insert.2.1 10 = .ok (.goto 17, 3) := by decide +kernel
theorem d_Mod_insert_13 : decode m_Mod_insert.2.1 13 = .ok (.aload_n 0, 1) := by decide +kernel
theorem d_Mod_insert_14 : decode m_Mod_insert.2.1 14 = .ok (.getfield 79, 3) := by decide +kernel
theorem d_Mod_insert_17 : decode m_Mod_insert.2.1 17 = .ok (.bipush 90, 2) := by decide +kernel
theorem d_Mod_insert_19 : decode m_Mod_insert.2.1 19 = .ok (.if_icmp .ne 7, 3) := by decide +kernel
theorem d_Mod_insert_22 : decode m_Mod_insert.2.1 22 = .ok (.iconst 2, 1) := by decide +kernel
theorem d_Mod_insert_23 : decode m_Mod_insert.2.1 23 = .ok (.goto 4, 3) := by decide +kernel
theorem d_Mod_insert_26 : decode m_Mod_insert.2.1 26 = .ok (.iconst 0, 1) := by decide +kernel
theorem d_Mod_insert_27 : decode m_Mod_insert.2.1 27 = .ok (.putfield 73, 3) := by decide +kernel
theorem d_Mod_insert_30 : decode m_Mod_insert.2.1 30 = .ok (.aload_n 0, 1) := by decide +kernel
theorem d_Mod_insert_31 : decode m_Mod_insert.2.1 31 = .ok (.getfield 73, 3) := by decide +kernel
theorem d_Mod_insert_34 : decode m_Mod_insert.2.1 34 = .ok (.ifCond .gt 12, 3) := by decide +kernel
theorem d_Mod_insert_37 : decode m_Mod_insert.2.1 37 = .ok (.aload_n 0, 1) := by decide +kernel
theorem d_Mod_insert_38 : decode m_Mod_insert.2.1 38 = .ok (.iload_n 1, 1) := by decide +kernel
theorem d_Mod_insert_39 : decode m_Mod_insert.2.1 39 = .ok (.lload_n 2, 1) := by decide +kernel
theorem d_Mod_insert_40 : decode m_Mod_insert.2.1 40 = .ok (.invokevirtual 86, 3) := by decide +kernel
theorem d_Mod_insert_43 : decode m_Mod_insert.2.1 43 = .ok (.ifCond .lt 5, 3) := by decide +kernel
theorem d_Mod_insert_46 : decode m_Mod_insert.2.1 46 = .ok (.iconst 0, 1) := by decide +kernel
theorem d_Mod_insert_47 : decode m_Mod_insert.2.1 47 = .ok (.ireturn, 1) := by decide +kernel
theorem d_Mod_insert_48 : decode m_Mod_insert.2.1 48 = .ok (.iconst 0, 1) := by decide +kernel
theorem d_Mod_insert_49 : decode m_Mod_insert.2.1 49 = .ok (.istore 4, 2) := by decide +kernel
theorem d_Mod_insert_51 : decode m_Mod_insert.2.1 51 = .ok (.iload 4, 2) := by decide +kernel
theorem d_Mod_insert_53 : decode m_Mod_insert.2.1 53 = .ok (.aload_n 0, 1) := by decide +kernel
theorem d_Mod_insert_54 : decode m_Mod_insert.2.1 54 = .ok (.getfield 7, 3) := by decide +kernel
theorem d_Mod_insert_57 : decode m_Mod_insert.2.1 57 = .ok (.iload_n 1, 1) := by decide +kernel
theorem d_Mod_insert_58 : decode m_Mod_insert.2.1 58 = .ok (.iaload, 1) := by decide +kernel
theorem d_Mod_insert_59 : decode m_Mod_insert.2.1 59 = .ok (.if_icmp .ge 31, 3) := by decide +kernel
theorem d_Mod_insert_62 : decode m_Mod_insert.2.1 62 = .ok (.aload_n 0, 1) := by decide +kernel
theorem d_Mod_insert_63 : decode m_Mod_insert.2.1 63 = .ok (.iload_n 1, 1) := by decide +kernel
theorem d_Mod_insert_64 : decode m_Mod_insert.2.1 64 = .ok (.lload_n 2, 1) := by decide +kernel
theorem d_Mod_insert_65 : decode m_Mod_insert.2.1 65 = .ok (.iload 4, 2) := by decide +kernel
theorem d_Mod_insert_67 : decode m_Mod_insert.2.1 67 = .ok (.aload_n 0, 1) := by decide +kernel
theorem d_Mod_insert_68 : decode m_Mod_insert.2.1 68 = .ok (.getfield 30, 3) := by decide +kernel
theorem d_Mod_insert_71 : decode m_Mod_insert.2.1 71 = .ok (.iload 4, 2) := by decide +kernel
theorem d_Mod_insert_73 : decode m_Mod_insert.2.1 73 = .ok (.baload, 1) := by decide +kernel
theorem d_Mod_insert_74 : decode m_Mod_insert.2.1 74 = .ok (.aload_n 0, 1) := by decide +kernel
theorem d_Mod_insert_75 : decode m_Mod_insert.2.1 75 = .ok (.getfield 27, 3) := by decide +kernel
theorem d_Mod_insert_78 : decode m_Mod_insert.2.1 78 = .ok (.iload 4, 2) := by decide +kernel
theorem d_Mod_insert_80 : decode m_Mod_insert.2.1 80 = .ok (.laload, 1) := by decide +kernel
theorem d_Mod_insert_81 : decode m_Mod_insert.2.1 81 = .ok (.invokevirtual 90, 3) := by decide +kernel
theorem d_Mod_insert_84 : decode m_Mod_insert.2.1 84 = .ok (.iinc 4 1, 3) := by decide +kernel
theorem d_Mod_insert_87 : decode m_Mod_insert.2.1 87 = .ok (.goto (-36), 3) := by decide +kernel
theorem d_Mod_insert_90 : decode m_Mod_insert.2.1 90 = .ok (.aload_n 0, 1) := by decide +kernel
theorem d_Mod_insert_91 : decode m_Mod_insert.2.1 91 = .ok (.dup, 1) := by decide +kernel
theorem d_Mod_insert_92 : decode m_Mod_insert.2.1 92 = .ok (.getfield 79, 3) := by decide +kernel
theorem d_Mod_insert_95 : decode m_Mod_insert.2.1 95 = .ok (.iconst 1, 1) := by decide +kernel
theorem d_Mod_insert_96 : decode m_Mod_insert.2.1 96 = .ok (.iadd, 1) := by decide +kernel
theorem d_Mod_insert_97 : decode m_Mod_insert.2.1 97 = .ok (.putfield 79, 3) := by decide +kernel
theorem d_Mod_insert_100 : decode m_Mod_insert.2.1 100 = .ok (.iconst 1, 1) := by decide +kernel
theorem d_Mod_insert_101 : decode m_Mod_insert.2.1 101 = .ok (.ireturn, 1) := by decide +kernel
theorem d_Mod_isTable_0 : decode m_Mod_isTable.2.1 0 = .ok (.iload_n 1, 1) := by decide +kernel
theorem d_Mod_isTable_1 : decode m_Mod_isTable.2.1 1 = .ok (.ifCond .lt 15, 3) := by decide +kernel
theorem d_Mod_isTable_4 : decode m_Mod_isTable.2.1 4 = .ok (.iload_n 1, 1) := by decide +kernel
theorem d_Mod_isTable_5 : decode m_Mod_isTable.2.1 5 = .ok (.aload_n 0, 1) := by decide +kernel
theorem d_Mod_isTable_6 : decode m_Mod_isTable.2.1 6 = .ok (.getfield 76, 3) := by decide +kernel
theorem d_Mod_isTable_9 : decode m_Mod_isTable.2.1 9 = .ok (.if_icmp .ge 7, 3) := by decide +kernel
theorem d_Mod_isTable_12 : decode m_Mod_isTable.2.1 12 = .ok (.iconst 1, 1) := by decide +kernel
theorem d_Mod_isTable_13 : decode m_Mod_isTable.2.1 13 = .ok (.goto 4, 3) := by decide +kernel
theorem d_Mod_isTable_16 : decode m_Mod_isTable.2.1 16 = .ok (.iconst 0, 1) := by decide +kernel
theorem d_Mod_isTable_17 : decode m_Mod_isTable.2.1 17 = .ok (.ireturn, 1) := by decide +kernel
theorem d_Mod_rowOf_0 : decode m_Mod_rowOf.2.1 0 = .ok (.iconst (-1), 1) := by decide +kernel
theorem d_Mod_rowOf_1 : decode m_Mod_rowOf.2.1 1 = .ok (.istore 4, 2) := by decide +kernel
theorem d_Mod_rowOf_3 : decode m_Mod_rowOf.2.1 3 = .ok (.iconst 0, 1) := by decide +kernel
theorem d_Mod_rowOf_4 : decode m_Mod_rowOf.2.1 4 = .ok (.istore 5, 2) := by decide +kernel
theorem d_Mod_rowOf_6 : decode m_Mod_rowOf.2.1 6 = .ok (.iload 5, 2) := by decide +kernel
theorem d_Mod_rowOf_8 : decode m_Mod_rowOf.2.1 8 = .ok (.aload_n 0, 1) := by decide +kernel
theorem d_Mod_rowOf_9 : decode m_Mod_rowOf.2.1 9 = .ok (.getfield 79, 3) := by decide +kernel
theorem d_Mod_rowOf_12 : decode m_Mod_rowOf.2.1 12 = .ok (.if_icmp .ge 41, 3) := by decide +kernel
theorem d_Mod_rowOf_15 : decode m_Mod_rowOf.2.1 15 = .ok (.aload_n 0, 1) := by decide +kernel
theorem d_Mod_rowOf_16 : decode m_Mod_rowOf.2.1 16 = .ok (.getfield 13, 3) := by decide +kernel
theorem d_Mod_rowOf_19 : decode m_Mod_rowOf.2.1 19 = .ok (.iload 5, 2) := by decide +kernel
theorem d_Mod_rowOf_21 : decode m_Mod_rowOf.2.1 21 = .ok (.iaload, 1) := by decide +kernel
theorem d_Mod_rowOf_22 : decode m_Mod_rowOf.2.1 22 = .ok (.iload_n 1, 1) := by decide +kernel
theorem d_Mod_rowOf_23 : decode m_Mod_rowOf.2.1 23 = .ok (.if_icmp .ne 20, 3) := by decide +kernel
theorem d_Mod_rowOf_26 : decode m_Mod_rowOf.2.1 26 = .ok (.aload_n 0, 1) := by decide +kernel
theorem d_Mod_rowOf_27 : decode m_Mod_rowOf.2.1 27 = .ok (.getfield 16, 3) := by decide +kernel
theorem d_Mod_rowOf_30 : decode m_Mod_rowOf.2.1 30 = .ok (.iload 5, 2) := by decide +kernel
theorem d_Mod_rowOf_32 : decode m_Mod_rowOf.2.1 32 = .ok (.laload, 1) := by decide +kernel
theorem d_Mod_rowOf_33 : decode m_Mod_rowOf.2.1 33 = .ok (.lload_n 2, 1) := by decide +kernel
theorem d_Mod_rowOf_34 : decode m_Mod_rowOf.2.1 34 = .ok (.lcmp, 1) := by decide +kernel
theorem d_Mod_rowOf_35 : decode m_Mod_rowOf.2.1 35 = .ok (.ifCond .ne 8, 3) := by decide +kernel
theorem d_Mod_rowOf_38 : decode m_Mod_rowOf.2.1 38 = .ok (.iload 5, 2) := by decide +kernel
theorem d_Mod_rowOf_40 : decode m_Mod_rowOf.2.1 40 = .ok (.goto 5, 3) := by decide +kernel
theorem d_Mod_rowOf_43 : decode m_Mod_rowOf.2.1 43 = .ok (.iload 4, 2) := by decide +kernel
theorem d_Mod_rowOf_45 : decode m_Mod_rowOf.2.1 45 = .ok (.istore 4, 2) := by decide +kernel
theorem d_Mod_rowOf_47 : decode m_Mod_rowOf.2.1 47 = .ok (.iinc 5 1, 3) := by decide +kernel
theorem d_Mod_rowOf_50 : decode m_Mod_rowOf.2.1 50 = .ok (.goto (-44), 3) := by decide +kernel
theorem d_Mod_rowOf_53 : decode m_Mod_rowOf.2.1 53 = .ok (.iload 4, 2) := by decide +kernel
theorem d_Mod_rowOf_55 : decode m_Mod_rowOf.2.1 55 = .ok (.ireturn, 1) := by decide +kernel
theorem d_Mod_lay_0 : decode m_Mod_lay.2.1 0 = .ok (.aload_n 0, 1) := by decide +kernel
theorem d_Mod_lay_1 : decode m_Mod_lay.2.1 1 = .ok (.getfield 13, 3) := by decide +kernel
theorem d_Mod_lay_4 : decode m_Mod_lay.2.1 4 = .ok (.aload_n 0, 1) := by decide +kernel
theorem d_Mod_lay_5 : decode m_Mod_lay.2.1 5 = .ok (.getfield 79, 3) := by decide +kernel
theorem d_Mod_lay_8 : decode m_Mod_lay.2.1 8 = .ok (.iload_n 1, 1) := by decide +kernel
theorem d_Mod_lay_9 : decode m_Mod_lay.2.1 9 = .ok (.iastore, 1) := by decide +kernel
theorem d_Mod_lay_10 : decode m_Mod_lay.2.1 10 = .ok (.aload_n 0, 1) := by decide +kernel
theorem d_Mod_lay_11 : decode m_Mod_lay.2.1 11 = .ok (.getfield 16, 3) := by decide +kernel
theorem d_Mod_lay_14 : decode m_Mod_lay.2.1 14 = .ok (.aload_n 0, 1) := by decide +kernel
theorem d_Mod_lay_15 : decode m_Mod_lay.2.1 15 = .ok (.getfield 79, 3) := by decide +kernel
theorem d_Mod_lay_18 : decode m_Mod_lay.2.1 18 = .ok (.lload_n 2, 1) := by decide +kernel
theorem d_Mod_lay_19 : decode m_Mod_lay.2.1 19 = .ok (.lastore, 1) := by decide +kernel
theorem d_Mod_lay_20 : decode m_Mod_lay.2.1 20 = .ok (.aload_n 0, 1) := by decide +kernel
theorem d_Mod_lay_21 : decode m_Mod_lay.2.1 21 = .ok (.getfield 23, 3) := by decide +kernel
theorem d_Mod_lay_24 : decode m_Mod_lay.2.1 24 = .ok (.iconst 4, 1) := by decide +kernel
theorem d_Mod_lay_25 : decode m_Mod_lay.2.1 25 = .ok (.aload_n 0, 1) := by decide +kernel
theorem d_Mod_lay_26 : decode m_Mod_lay.2.1 26 = .ok (.getfield 79, 3) := by decide +kernel
theorem d_Mod_lay_29 : decode m_Mod_lay.2.1 29 = .ok (.imul, 1) := by decide +kernel
theorem d_Mod_lay_30 : decode m_Mod_lay.2.1 30 = .ok (.iload 4, 2) := by decide +kernel
theorem d_Mod_lay_32 : decode m_Mod_lay.2.1 32 = .ok (.iadd, 1) := by decide +kernel
theorem d_Mod_lay_33 : decode m_Mod_lay.2.1 33 = .ok (.iload 5, 2) := by decide +kernel
theorem d_Mod_lay_35 : decode m_Mod_lay.2.1 35 = .ok (.bastore, 1) := by decide +kernel
theorem d_Mod_lay_36 : decode m_Mod_lay.2.1 36 = .ok (.aload_n 0, 1) := by decide +kernel
theorem d_Mod_lay_37 : decode m_Mod_lay.2.1 37 = .ok (.getfield 20, 3) := by decide +kernel
theorem d_Mod_lay_40 : decode m_Mod_lay.2.1 40 = .ok (.iconst 4, 1) := by decide +kernel
theorem d_Mod_lay_41 : decode m_Mod_lay.2.1 41 = .ok (.aload_n 0, 1) := by decide +kernel
theorem d_Mod_lay_42 : decode m_Mod_lay.2.1 42 = .ok (.getfield 79, 3) := by decide +kernel
theorem d_Mod_lay_45 : decode m_Mod_lay.2.1 45 = .ok (.imul, 1) := by decide +kernel
theorem d_Mod_lay_46 : decode m_Mod_lay.2.1 46 = .ok (.iload 4, 2) := by decide +kernel
theorem d_Mod_lay_48 : decode m_Mod_lay.2.1 48 = .ok (.iadd, 1) := by decide +kernel
theorem d_Mod_lay_49 : decode m_Mod_lay.2.1 49 = .ok (.iload 5, 2) := by decide +kernel
theorem d_Mod_lay_51 : decode m_Mod_lay.2.1 51 = .ok (.ifCond .eq 8, 3) := by decide +kernel
theorem d_Mod_lay_54 : decode m_Mod_lay.2.1 54 = .ok (.lload 6, 2) := by decide +kernel
theorem d_Mod_lay_56 : decode m_Mod_lay.2.1 56 = .ok (.goto 4, 3) := by decide +kernel
theorem d_Mod_lay_59 : decode m_Mod_lay.2.1 59 = .ok (.lconst 0, 1) := by decide +kernel
theorem d_Mod_lay_60 : decode m_Mod_lay.2.1 60 = .ok (.lastore, 1) := by decide +kernel
theorem d_Mod_lay_61 : decode m_Mod_lay.2.1 61 = .ok (.return_, 1) := by decide +kernel
theorem d_Mod_delete_0 : decode m_Mod_delete.2.1 0 = .ok (.aload_n 0, 1) := by decide +kernel
theorem d_Mod_delete_1 : decode m_Mod_delete.2.1 1 = .ok (.aload_n 0, 1) := by decide +kernel
theorem d_Mod_delete_2 : decode m_Mod_delete.2.1 2 = .ok (.iload_n 1, 1) := by decide +kernel
theorem d_Mod_delete_3 : decode m_Mod_delete.2.1 3 = .ok (.invokevirtual 82, 3) := by decide +kernel
theorem d_Mod_delete_6 : decode m_Mod_delete.2.1 6 = .ok (.ifCond .eq 7, 3) := by decide +kernel
theorem d_Mod_delete_9 : decode m_Mod_delete.2.1 9 = .ok (.iconst 0, 1) := by decide +kernel
theorem d_Mod_delete_10 : decode m_Mod_delete.2.1 10 = .ok (.goto 4, 3) := by decide +kernel
theorem d_Mod_delete_13 : decode m_Mod_delete.2.1 13 = .ok (.iconst 1, 1) := by decide +kernel
theorem d_Mod_delete_14 : decode m_Mod_delete.2.1 14 = .ok (.putfield 73, 3) := by decide +kernel
theorem d_Mod_delete_17 : decode m_Mod_delete.2.1 17 = .ok (.aload_n 0, 1) := by decide +kernel
theorem d_Mod_delete_18 : decode m_Mod_delete.2.1 18 = .ok (.getfield 73, 3) := by decide +kernel
theorem d_Mod_delete_21 : decode m_Mod_delete.2.1 21 = .ok (.ifCond .le 5, 3) := by decide +kernel
theorem d_Mod_delete_24 : decode m_Mod_delete.2.1 24 = .ok (.iconst 0, 1) := by decide +kernel
theorem d_Mod_delete_25 : decode m_Mod_delete.2.1 25 = .ok (.ireturn, 1) := by decide +kernel
theorem d_Mod_delete_26 : decode m_Mod_delete.2.1 26 = .ok (.aload_n 0, 1) := by decide +kernel
theorem d_Mod_delete_27 : decode m_Mod_delete.2.1 27 = .ok (.iload_n 1, 1) := by decide +kernel
theorem d_Mod_delete_28 : decode m_Mod_delete.2.1 28 = .ok (.lload_n 2, 1) := by decide +kernel
theorem d_Mod_delete_29 : decode m_Mod_delete.2.1 29 = .ok (.invokevirtual 86, 3) := by decide +kernel
theorem d_Mod_delete_32 : decode m_Mod_delete.2.1 32 = .ok (.istore 4, 2) := by decide +kernel
theorem d_Mod_delete_34 : decode m_Mod_delete.2.1 34 = .ok (.iload 4, 2) := by decide +kernel
theorem d_Mod_delete_36 : decode m_Mod_delete.2.1 36 = .ok (.ifCond .lt 9, 3) := by decide +kernel
theorem d_Mod_delete_39 : decode m_Mod_delete.2.1 39 = .ok (.aload_n 0, 1) := by decide +kernel
theorem d_Mod_delete_40 : decode m_Mod_delete.2.1 40 = .ok (.iload 4, 2) := by decide +kernel
theorem d_Mod_delete_42 : decode m_Mod_delete.2.1 42 = .ok (.invokevirtual 94, 3) := by decide +kernel
theorem d_Mod_delete_45 : decode m_Mod_delete.2.1 45 = .ok (.iload 4, 2) := by decide +kernel
theorem d_Mod_delete_47 : decode m_Mod_delete.2.1 47 = .ok (.ifCond .lt 7, 3) := by decide +kernel
theorem d_Mod_delete_50 : decode m_Mod_delete.2.1 50 = .ok (.iconst 1, 1) := by decide +kernel
theorem d_Mod_delete_51 : decode m_Mod_delete.2.1 51 = .ok (.goto 4, 3) := by decide +kernel
theorem d_Mod_delete_54 : decode m_Mod_delete.2.1 54 = .ok (.iconst 0, 1) := by decide +kernel
theorem d_Mod_delete_55 : decode m_Mod_delete.2.1 55 = .ok (.ireturn, 1) := by decide +kernel
theorem d_Mod_take_0 : decode m_Mod_take.2.1 0 = .ok (.aload_n 0, 1) := by decide +kernel
theorem d_Mod_take_1 : decode m_Mod_take.2.1 1 = .ok (.dup, 1) := by decide +kernel
theorem d_Mod_take_2 : decode m_Mod_take.2.1 2 = .ok (.getfield 79, 3) := by decide +kernel
theorem d_Mod_take_5 : decode m_Mod_take.2.1 5 = .ok (.iconst 1, 1) := by decide +kernel
theorem d_Mod_take_6 : decode m_Mod_take.2.1 6 = .ok (.isub, 1) := by decide +kernel
theorem d_Mod_take_7 : decode m_Mod_take.2.1 7 = .ok (.putfield 79, 3) := by decide +kernel
theorem d_Mod_take_10 : decode m_Mod_take.2.1 10 = .ok (.aload_n 0, 1) := by decide +kernel
theorem d_Mod_take_11 : decode m_Mod_take.2.1 11 = .ok (.getfield 13, 3) := by decide +kernel
theorem d_Mod_take_14 : decode m_Mod_take.2.1 14 = .ok (.iload_n 1, 1) := by decide +kernel
theorem d_Mod_take_15 : decode m_Mod_take.2.1 15 = .ok (.aload_n 0, 1) := by decide +kernel
theorem d_Mod_take_16 : decode m_Mod_take.2.1 16 = .ok (.getfield 13, 3) := by decide +kernel
theorem d_Mod_take_19 : decode m_Mod_take.2.1 19 = .ok (.aload_n 0, 1) := by decide +kernel
theorem d_Mod_take_20 : decode m_Mod_take.2.1 20 = .ok (.getfield 79, 3) := by decide +kernel
theorem d_Mod_take_23 : decode m_Mod_take.2.1 23 = .ok (.iaload, 1) := by decide +kernel
theorem d_Mod_take_24 : decode m_Mod_take.2.1 24 = .ok (.iastore, 1) := by decide +kernel
theorem d_Mod_take_25 : decode m_Mod_take.2.1 25 = .ok (.aload_n 0, 1) := by decide +kernel
theorem d_Mod_take_26 : decode m_Mod_take.2.1 26 = .ok (.getfield 16, 3) := by decide +kernel
theorem d_Mod_take_29 : decode m_Mod_take.2.1 29 = .ok (.iload_n 1, 1) := by decide +kernel
theorem d_Mod_take_30 : decode m_Mod_take.2.1 30 = .ok (.aload_n 0, 1) := by decide +kernel
theorem d_Mod_take_31 : decode m_Mod_take.2.1 31 = .ok (.getfield 16, 3) := by decide +kernel
theorem d_Mod_take_34 : decode m_Mod_take.2.1 34 = .ok (.aload_n 0, 1) := by decide +kernel
theorem d_Mod_take_35 : decode m_Mod_take.2.1 35 = .ok (.getfield 79, 3) := by decide +kernel
theorem d_Mod_take_38 : decode m_Mod_take.2.1 38 = .ok (.laload, 1) := by decide +kernel
theorem d_Mod_take_39 : decode m_Mod_take.2.1 39 = .ok (.lastore, 1) := by decide +kernel
theorem d_Mod_take_40 : decode m_Mod_take.2.1 40 = .ok (.iconst 0, 1) := by decide +kernel
theorem d_Mod_take_41 : decode m_Mod_take.2.1 41 = .ok (.istore_n 2, 1) := by decide +kernel
theorem d_Mod_take_42 : decode m_Mod_take.2.1 42 = .ok (.iload_n 2, 1) := by decide +kernel
theorem d_Mod_take_43 : decode m_Mod_take.2.1 43 = .ok (.iconst 4, 1) := by decide +kernel
theorem d_Mod_take_44 : decode m_Mod_take.2.1 44 = .ok (.if_icmp .ge 55, 3) := by decide +kernel
theorem d_Mod_take_47 : decode m_Mod_take.2.1 47 = .ok (.aload_n 0, 1) := by decide +kernel
theorem d_Mod_take_48 : decode m_Mod_take.2.1 48 = .ok (.getfield 23, 3) := by decide +kernel
theorem d_Mod_take_51 : decode m_Mod_take.2.1 51 = .ok (.iconst 4, 1) := by decide +kernel
theorem d_Mod_take_52 : decode m_Mod_take.2.1 52 = .ok (.iload_n 1, 1) := by decide +kernel
theorem d_Mod_take_53 : decode m_Mod_take.2.1 53 = .ok (.imul, 1) := by decide +kernel
theorem d_Mod_take_54 : decode m_Mod_take.2.1 54 = .ok (.iload_n 2, 1) := by decide +kernel
theorem d_Mod_take_55 : decode m_Mod_take.2.1 55 = .ok (.iadd, 1) := by decide +kernel
theorem d_Mod_take_56 : decode m_Mod_take.2.1 56 = .ok (.aload_n 0, 1) := by decide +kernel
theorem d_Mod_take_57 : decode m_Mod_take.2.1 57 = .ok (.getfield 23, 3) := by decide +kernel
theorem d_Mod_take_60 : decode m_Mod_take.2.1 60 = .ok (.iconst 4, 1) := by decide +kernel
theorem d_Mod_take_61 : decode m_Mod_take.2.1 61 = .ok (.aload_n 0, 1) := by decide +kernel
theorem d_Mod_take_62 : decode m_Mod_take.2.1 62 = .ok (.getfield 79, 3) := by decide +kernel
theorem d_Mod_take_65 : decode m_Mod_take.2.1 65 = .ok (.imul, 1) := by decide +kernel
theorem d_Mod_take_66 : decode m_Mod_take.2.1 66 = .ok (.iload_n 2, 1) := by decide +kernel
theorem d_Mod_take_67 : decode m_Mod_take.2.1 67 = .ok (.iadd, 1) := by decide +kernel
theorem d_Mod_take_68 : decode m_Mod_take.2.1 68 = .ok (.baload, 1) := by decide +kernel
theorem d_Mod_take_69 : decode m_Mod_take.2.1 69 = .ok (.bastore, 1) := by decide +kernel
theorem d_Mod_take_70 : decode m_Mod_take.2.1 70 = .ok (.aload_n 0, 1) := by decide +kernel
theorem d_Mod_take_71 : decode m_Mod_take.2.1 71 = .ok (.getfield 20, 3) := by decide +kernel
theorem d_Mod_take_74 : decode m_Mod_take.2.1 74 = .ok (.iconst 4, 1) := by decide +kernel
theorem d_Mod_take_75 : decode m_Mod_take.2.1 75 = .ok (.iload_n 1, 1) := by decide +kernel
theorem d_Mod_take_76 : decode m_Mod_take.2.1 76 = .ok (.imul, 1) := by decide +kernel
theorem d_Mod_take_77 : decode m_Mod_take.2.1 77 = .ok (.iload_n 2, 1) := by decide +kernel
theorem d_Mod_take_78 : decode m_Mod_take.2.1 78 = .ok (.iadd, 1) := by decide +kernel
theorem d_Mod_take_79 : decode m_Mod_take.2.1 79 = .ok (.aload_n 0, 1) := by decide +kernel
theorem d_Mod_take_80 : decode m_Mod_take.2.1 80 = .ok (.getfield 20, 3) := by decide +kernel
theorem d_Mod_take_83 : decode m_Mod_take.2.1 83 = .ok (.iconst 4, 1) := by decide +kernel
theorem d_Mod_take_84 : decode m_Mod_take.2.1 84 = .ok (.aload_n 0, 1) := by decide +kernel
theorem d_Mod_take_85 : decode m_Mod_take.2.1 85 = .ok (.getfield 79, 3) := by decide +kernel
theorem d_Mod_take_88 : decode m_Mod_take.2.1 88 = .ok (.imul, 1) := by decide +kernel
theorem d_Mod_take_89 : decode m_Mod_take.2.1 89 = .ok (.iload_n 2, 1) := by decide +kernel
theorem d_Mod_take_90 : decode m_Mod_take.2.1 90 = .ok (.iadd, 1) := by decide +kernel
theorem d_Mod_take_91 : decode m_Mod_take.2.1 91 = .ok (.laload, 1) := by decide +kernel
theorem d_Mod_take_92 : decode m_Mod_take.2.1 92 = .ok (.lastore, 1) := by decide +kernel
theorem d_Mod_take_93 : decode m_Mod_take.2.1 93 = .ok (.iinc 2 1, 3) := by decide +kernel
theorem d_Mod_take_96 : decode m_Mod_take.2.1 96 = .ok (.goto (-54), 3) := by decide +kernel
theorem d_Mod_take_99 : decode m_Mod_take.2.1 99 = .ok (.return_, 1) := by decide +kernel
theorem d_Mod_count_0 : decode m_Mod_count.2.1 0 = .ok (.aload_n 0, 1) := by decide +kernel
theorem d_Mod_count_1 : decode m_Mod_count.2.1 1 = .ok (.iconst 0, 1) := by decide +kernel
theorem d_Mod_count_2 : decode m_Mod_count.2.1 2 = .ok (.putfield 73, 3) := by decide +kernel
theorem d_Mod_count_5 : decode m_Mod_count.2.1 5 = .ok (.iconst 0, 1) := by decide +kernel
theorem d_Mod_count_6 : decode m_Mod_count.2.1 6 = .ok (.istore_n 2, 1) := by decide +kernel
theorem d_Mod_count_7 : decode m_Mod_count.2.1 7 = .ok (.iconst 0, 1) := by decide +kernel
theorem d_Mod_count_8 : decode m_Mod_count.2.1 8 = .ok (.istore_n 3, 1) := by decide +kernel
theorem d_Mod_count_9 : decode m_Mod_count.2.1 9 = .ok (.iload_n 3, 1) := by decide +kernel
theorem d_Mod_count_10 : decode m_Mod_count.2.1 10 = .ok (.aload_n 0, 1) := by decide +kernel
theorem d_Mod_count_11 : decode m_Mod_count.2.1 11 = .ok (.getfield 79, 3) := by decide +kernel
theorem d_Mod_count_14 : decode m_Mod_count.2.1 14 = .ok (.if_icmp .ge 27, 3) := by decide +kernel
theorem d_Mod_count_17 : decode m_Mod_count.2.1 17 = .ok (.iload_n 2, 1) := by decide +kernel
theorem d_Mod_count_18 : decode m_Mod_count.2.1 18 = .ok (.aload_n 0, 1) := by decide +kernel
theorem d_Mod_count_19 : decode m_Mod_count.2.1 19 = .ok (.getfield 13, 3) := by decide +kernel
theorem d_Mod_count_22 : decode m_Mod_count.2.1 22 = .ok (.iload_n 3, 1) := by decide +kernel
theorem d_Mod_count_23 : decode m_Mod_count.2.1 23 = .ok (.iaload, 1) := by decide +kernel
theorem d_Mod_count_24 : decode m_Mod_count.2.1 24 = .ok (.iload_n 1, 1) := by decide +kernel
theorem d_Mod_count_25 : decode m_Mod_count.2.1 25 = .ok (.if_icmp .ne 7, 3) := by decide +kernel
theorem d_Mod_count_28 : decode m_Mod_count.2.1 28 = .ok (.iconst 1, 1) := by decide +kernel
theorem d_Mod_count_29 : decode m_Mod_count.2.1 29 = .ok (.goto 4, 3) := by decide +kernel
theorem d_Mod_count_32 : decode m_Mod_count.2.1 32 = .ok (.iconst 0, 1) := by decide +kernel
theorem d_Mod_count_33 : decode m_Mod_count.2.1 33 = .ok (.iadd, 1) := by decide +kernel
theorem d_Mod_count_34 : decode m_Mod_count.2.1 34 = .ok (.istore_n 2, 1) := by decide +kernel
theorem d_Mod_count_35 : decode m_Mod_count.2.1 35 = .ok (.iinc 3 1, 3) := by decide +kernel
theorem d_Mod_count_38 : decode m_Mod_count.2.1 38 = .ok (.goto (-29), 3) := by decide +kernel
theorem d_Mod_count_41 : decode m_Mod_count.2.1 41 = .ok (.aload_n 0, 1) := by decide +kernel
theorem d_Mod_count_42 : decode m_Mod_count.2.1 42 = .ok (.iload_n 1, 1) := by decide +kernel
theorem d_Mod_count_43 : decode m_Mod_count.2.1 43 = .ok (.invokevirtual 82, 3) := by decide +kernel
theorem d_Mod_count_46 : decode m_Mod_count.2.1 46 = .ok (.ifCond .eq 7, 3) := by decide +kernel
theorem d_Mod_count_49 : decode m_Mod_count.2.1 49 = .ok (.iload_n 2, 1) := by decide +kernel
theorem d_Mod_count_50 : decode m_Mod_count.2.1 50 = .ok (.goto 4, 3) := by decide +kernel
theorem d_Mod_count_53 : decode m_Mod_count.2.1 53 = .ok (.iconst (-1), 1) := by decide +kernel
theorem d_Mod_count_54 : decode m_Mod_count.2.1 54 = .ok (.ireturn, 1) := by decide +kernel
theorem d_Mod_next_0 : decode m_Mod_next.2.1 0 = .ok (.aload_n 0, 1) := by decide +kernel
theorem d_Mod_next_1 : decode m_Mod_next.2.1 1 = .ok (.aload_n 0, 1) := by decide +kernel
theorem d_Mod_next_2 : decode m_Mod_next.2.1 2 = .ok (.iload_n 1, 1) := by decide +kernel
theorem d_Mod_next_3 : decode m_Mod_next.2.1 3 = .ok (.invokevirtual 82, 3) := by decide +kernel
theorem d_Mod_next_6 : decode m_Mod_next.2.1 6 = .ok (.ifCond .eq 7, 3) := by decide +kernel
theorem d_Mod_next_9 : decode m_Mod_next.2.1 9 = .ok (.iconst 0, 1) := by decide +kernel
theorem d_Mod_next_10 : decode m_Mod_next.2.1 10 = .ok (.goto 4, 3) := by decide +kernel
theorem d_Mod_next_13 : decode m_Mod_next.2.1 13 = .ok (.iconst 1, 1) := by decide +kernel
theorem d_Mod_next_14 : decode m_Mod_next.2.1 14 = .ok (.putfield 73, 3) := by decide +kernel
theorem d_Mod_next_17 : decode m_Mod_next.2.1 17 = .ok (.aload_n 0, 1) := by decide +kernel
theorem d_Mod_next_18 : decode m_Mod_next.2.1 18 = .ok (.getfield 73, 3) := by decide +kernel
theorem d_Mod_next_21 : decode m_Mod_next.2.1 21 = .ok (.ifCond .le 5, 3) := by decide +kernel
theorem d_Mod_next_24 : decode m_Mod_next.2.1 24 = .ok (.lconst 0, 1) := by decide +kernel
theorem d_Mod_next_25 : decode m_Mod_next.2.1 25 = .ok (.lreturn, 1) := by decide +kernel
theorem d_Mod_next_26 : decode m_Mod_next.2.1 26 = .ok (.aload_n 0, 1) := by decide +kernel
theorem d_Mod_next_27 : decode m_Mod_next.2.1 27 = .ok (.iload_n 1, 1) := by decide +kernel
theorem d_Mod_next_28 : decode m_Mod_next.2.1 28 = .ok (.lload_n 2, 1) := by decide +kernel
theorem d_Mod_next_29 : decode m_Mod_next.2.1 29 = .ok (.iload 4, 2) := by decide +kernel
theorem d_Mod_next_31 : decode m_Mod_next.2.1 31 = .ok (.invokevirtual 98, 3) := by decide +kernel
theorem d_Mod_next_34 : decode m_Mod_next.2.1 34 = .ok (.istore 5, 2) := by decide +kernel
theorem d_Mod_next_36 : decode m_Mod_next.2.1 36 = .ok (.aload_n 0, 1) := by decide +kernel
theorem d_Mod_next_37 : decode m_Mod_next.2.1 37 = .ok (.iload 5, 2) := by decide +kernel
theorem d_Mod_next_39 : decode m_Mod_next.2.1 39 = .ok (.ifCond .ge 7, 3) := by decide +kernel
theorem d_Mod_next_42 : decode m_Mod_next.2.1 42 = .ok (.iconst 2, 1) := by decide +kernel
theorem d_Mod_next_43 : decode m_Mod_next.2.1 43 = .ok (.goto 4, 3) := by decide +kernel
theorem d_Mod_next_46 : decode m_Mod_next.2.1 46 = .ok (.iconst 0, 1) := by decide +kernel
theorem d_Mod_next_47 : decode m_Mod_next.2.1 47 = .ok (.putfield 73, 3) := by decide +kernel
theorem d_Mod_next_50 : decode m_Mod_next.2.1 50 = .ok (.iload 5, 2) := by decide +kernel
theorem d_Mod_next_52 : decode m_Mod_next.2.1 52 = .ok (.ifCond .ge 7, 3) := by decide +kernel
theorem d_Mod_next_55 : decode m_Mod_next.2.1 55 = .ok (.lconst 0, 1) := by decide +kernel
theorem d_Mod_next_56 : decode m_Mod_next.2.1 56 = .ok (.goto 10, 3) := by decide +kernel
theorem d_Mod_next_59 : decode m_Mod_next.2.1 59 = .ok (.aload_n 0, 1) := by decide +kernel
theorem d_Mod_next_60 : decode m_Mod_next.2.1 60 = .ok (.getfield 16, 3) := by decide +kernel
theorem d_Mod_next_63 : decode m_Mod_next.2.1 63 = .ok (.iload 5, 2) := by decide +kernel
theorem d_Mod_next_65 : decode m_Mod_next.2.1 65 = .ok (.laload, 1) := by decide +kernel
theorem d_Mod_next_66 : decode m_Mod_next.2.1 66 = .ok (.lreturn, 1) := by decide +kernel
theorem d_Mod_rowFrom_0 : decode m_Mod_rowFrom.2.1 0 = .ok (.iconst (-1), 1) := by decide +kernel
theorem d_Mod_rowFrom_1 : decode m_Mod_rowFrom.2.1 1 = .ok (.istore 5, 2) := by decide +kernel
theorem d_Mod_rowFrom_3 : decode m_Mod_rowFrom.2.1 3 = .ok (.iconst 0, 1) := by decide +kernel
theorem d_Mod_rowFrom_4 : decode m_Mod_rowFrom.2.1 4 = .ok (.istore 6, 2) := by decide +kernel
theorem d_Mod_rowFrom_6 : decode m_Mod_rowFrom.2.1 6 = .ok (.iload 6, 2) := by decide +kernel
theorem d_Mod_rowFrom_8 : decode m_Mod_rowFrom.2.1 8 = .ok (.aload_n 0, 1) := by decide +kernel
theorem d_Mod_rowFrom_9 : decode m_Mod_rowFrom.2.1 9 = .ok (.getfield 79, 3) := by decide +kernel
theorem d_Mod_rowFrom_12 : decode m_Mod_rowFrom.2.1 12 = .ok (.if_icmp .ge 102, 3) := by decide +kernel
theorem d_Mod_rowFrom_15 : decode m_Mod_rowFrom.2.1 15 = .ok (.aload_n 0, 1) := by decide +kernel
theorem d_Mod_rowFrom_16 : decode m_Mod_rowFrom.2.1 16 = .ok (.getfield 13, 3) := by decide +kernel
theorem d_Mod_rowFrom_19 : decode m_Mod_rowFrom.2.1 19 = .ok (.iload 6, 2) := by decide +kernel
theorem d_Mod_rowFrom_21 : decode m_Mod_rowFrom.2.1 21 = .ok (.iaload, 1) := by decide +kernel
theorem d_Mod_rowFrom_22 : decode m_Mod_rowFrom.2.1 22 = .ok (.iload_n 1, 1) := by decide +kernel
theorem d_Mod_rowFrom_23 : decode m_Mod_rowFrom.2.1 23 = .ok (.if_icmp .ne 36, 3) := by decide +kernel
theorem d_Mod_rowFrom_26 : decode m_Mod_rowFrom.2.1 26 = .ok (.aload_n 0, 1) := by decide +kernel
theorem d_Mod_rowFrom_27 : decode m_Mod_rowFrom.2.1 27 = .ok (.getfield 16, 3) := by decide +kernel
theorem d_Mod_rowFrom_30 : decode m_Mod_rowFrom.2.1 30 = .ok (.iload 6, 2) := by decide +kernel
theorem d_Mod_rowFrom_32 : decode m_Mod_rowFrom.2.1 32 = .ok (.laload, 1) := by decide +kernel
theorem d_Mod_rowFrom_33 : decode m_Mod_rowFrom.2.1 33 = .ok (.lload_n 2, 1) := by decide +kernel
theorem d_Mod_rowFrom_34 : decode m_Mod_rowFrom.2.1 34 = .ok (.lcmp, 1) := by decide +kernel
theorem d_Mod_rowFrom_35 : decode m_Mod_rowFrom.2.1 35 = .ok (.ifCond .gt 20, 3) := by decide +kernel
theorem d_Mod_rowFrom_38 : decode m_Mod_rowFrom.2.1 38 = .ok (.aload_n 0, 1) := by decide +kernel
theorem d_Mod_rowFrom_39 : decode m_Mod_rowFrom.2.1 39 = .ok (.getfield 16, 3) := by decide +kernel
theorem d_Mod_rowFrom_42 : decode m_Mod_rowFrom.2.1 42 = .ok (.iload 6, 2) := by decide +kernel
theorem d_Mod_rowFrom_44 : decode m_Mod_rowFrom.2.1 44 = .ok (.laload, 1) := by decide +kernel
theorem d_Mod_rowFrom_45 : decode m_Mod_rowFrom.2.1 45 = .ok (.lload_n 2, 1) := by decide +kernel
theorem d_Mod_rowFrom_46 : decode m_Mod_rowFrom.2.1 46 = .ok (.lcmp, 1) := by decide +kernel
theorem d_Mod_rowFrom_47 : decode m_Mod_rowFrom.2.1 47 = .ok (.ifCond .ne 12, 3) := by decide +kernel
theorem d_Mod_rowFrom_50 : decode m_Mod_rowFrom.2.1 50 = .ok (.iload 4, 2) := by decide +kernel
theorem d_Mod_rowFrom_52 : decode m_Mod_rowFrom.2.1 52 = .ok (.ifCond .ne 7, 3) := by decide +kernel
theorem d_Mod_rowFrom_55 : decode m_Mod_rowFrom.2.1 55 = .ok (.iconst 1, 1) := by decide +kernel
theorem d_Mod_rowFrom_56 : decode m_Mod_rowFrom.2.1 56 = .ok (.goto 4, 3) := by decide +kernel
theorem d_Mod_rowFrom_59 : decode m_Mod_rowFrom.2.1 59 = .ok (.iconst 0, 1) := by decide +kernel
theorem d_Mod_rowFrom_60 : decode m_Mod_rowFrom.2.1 60 = .ok (.istore 7, 2) := by decide +kernel
theorem d_Mod_rowFrom_62 : decode m_Mod_rowFrom.2.1 62 = .ok (.iload 7, 2) := by decide +kernel
theorem d_Mod_rowFrom_64 : decode m_Mod_rowFrom.2.1 64 = .ok (.ifCond .eq 40, 3) := by decide +kernel
theorem d_Mod_rowFrom_67 : decode m_Mod_rowFrom.2.1 67 = .ok (.iload 5, 2) := by decide +kernel
theorem d_Mod_rowFrom_69 : decode m_Mod_rowFrom.2.1 69 = .ok (.ifCond .lt 30, 3) := by decide +kernel
theorem d_Mod_rowFrom_72 : decode m_Mod_rowFrom.2.1 72 = .ok (.aload_n 0, 1) := by decide +kernel
theorem d_Mod_rowFrom_73 : decode m_Mod_rowFrom.2.1 73 = .ok (.getfield 16, 3) := by decide +kernel
theorem d_Mod_rowFrom_76 : decode m_Mod_rowFrom.2.1 76 = .ok (.iload 6, 2) := by decide +kernel
theorem d_Mod_rowFrom_78 : decode m_Mod_rowFrom.2.1 78 = .ok (.laload, 1) := by decide +kernel
theorem d_Mod_rowFrom_79 : decode m_Mod_rowFrom.2.1 79 = .ok (.aload_n 0, 1) := by decide +kernel
theorem d_Mod_rowFrom_80 : decode m_Mod_rowFrom.2.1 80 = .ok (.getfield 16, 3) := by decide +kernel
theorem d_Mod_rowFrom_83 : decode m_Mod_rowFrom.2.1 83 = .ok (.iload 5, 2) := by decide +kernel
theorem d_Mod_rowFrom_85 : decode m_Mod_rowFrom.2.1 85 = .ok (.ifCond .ge 7, 3) := by decide +kernel
theorem d_Mod_rowFrom_88 : decode m_Mod_rowFrom.2.1 88 = .ok (.iconst 0, 1) := by decide +kernel
theorem d_Mod_rowFrom_89 : decode m_Mod_rowFrom.2.1 89 = .ok (.goto 5, 3) := by decide +kernel
theorem d_Mod_rowFrom_92 : decode m_Mod_rowFrom.2.1 92 = .ok (.iload 5, 2) := by decide +kernel
theorem d_Mod_rowFrom_94 : decode m_Mod_rowFrom.2.1 94 = .ok (.laload, 1) := by decide +kernel
theorem d_Mod_rowFrom_95 : decode m_Mod_rowFrom.2.1 95 = .ok (.lcmp, 1) := by decide +kernel
theorem d_Mod_rowFrom_96 : decode m_Mod_rowFrom.2.1 96 = .ok (.ifCond .ge 8, 3) := by decide +kernel
theorem d_Mod_rowFrom_99 : decode m_Mod_rowFrom.2.1 99 = .ok (.iload 6, 2) := by decide +kernel
theorem d_Mod_rowFrom_101 : decode m_Mod_rowFrom.2.1 101 = .ok (.goto 5, 3) := by decide +kernel
theorem d_Mod_rowFrom_104 : decode m_Mod_rowFrom.2.1 104 = .ok (.iload 5, 2) := by decide +kernel
theorem d_Mod_rowFrom_106 : decode m_Mod_rowFrom.2.1 106 = .ok (.istore 5, 2) := by decide +kernel
theorem d_Mod_rowFrom_108 : decode m_Mod_rowFrom.2.1 108 = .ok (.iinc 6 1, 3) := by decide +kernel
theorem d_Mod_rowFrom_111 : decode m_Mod_rowFrom.2.1 111 = .ok (.goto (-105), 3) := by decide +kernel
theorem d_Mod_rowFrom_114 : decode m_Mod_rowFrom.2.1 114 = .ok (.iload 5, 2) := by decide +kernel
theorem d_Mod_rowFrom_116 : decode m_Mod_rowFrom.2.1 116 = .ok (.ireturn, 1) := by decide +kernel
theorem d_Mod_value_0 : decode m_Mod_value.2.1 0 = .ok (.aload_n 0, 1) := by decide +kernel
theorem d_Mod_value_1 : decode m_Mod_value.2.1 1 = .ok (.iload_n 1, 1) := by decide +kernel
theorem d_Mod_value_2 : decode m_Mod_value.2.1 2 = .ok (.lload_n 2, 1) := by decide +kernel
theorem d_Mod_value_3 : decode m_Mod_value.2.1 3 = .ok (.iload 4, 2) := by decide +kernel
theorem d_Mod_value_5 : decode m_Mod_value.2.1 5 = .ok (.invokevirtual 102, 3) := by decide +kernel
theorem d_Mod_value_8 : decode m_Mod_value.2.1 8 = .ok (.istore 5, 2) := by decide +kernel
theorem d_Mod_value_10 : decode m_Mod_value.2.1 10 = .ok (.iload 5, 2) := by decide +kernel
theorem d_Mod_value_12 : decode m_Mod_value.2.1 12 = .ok (.ifCond .ge 7, 3) := by decide +kernel
theorem d_Mod_value_15 : decode m_Mod_value.2.1 15 = .ok (.lconst 0, 1) := by decide +kernel
theorem d_Mod_value_16 : decode m_Mod_value.2.1 16 = .ok (.goto 15, 3) := by decide +kernel
theorem d_Mod_value_19 : decode m_Mod_value.2.1 19 = .ok (.aload_n 0, 1) := by decide +kernel
theorem d_Mod_value_20 : decode m_Mod_value.2.1 20 = .ok (.getfield 20, 3) := by decide +kernel
theorem d_Mod_value_23 : decode m_Mod_value.2.1 23 = .ok (.iconst 4, 1) := by decide +kernel
theorem d_Mod_value_24 : decode m_Mod_value.2.1 24 = .ok (.iload 5, 2) := by decide +kernel
theorem d_Mod_value_26 : decode m_Mod_value.2.1 26 = .ok (.imul, 1) := by decide +kernel
theorem d_Mod_value_27 : decode m_Mod_value.2.1 27 = .ok (.iload 4, 2) := by decide +kernel
theorem d_Mod_value_29 : decode m_Mod_value.2.1 29 = .ok (.iadd, 1) := by decide +kernel
theorem d_Mod_value_30 : decode m_Mod_value.2.1 30 = .ok (.laload, 1) := by decide +kernel
theorem d_Mod_value_31 : decode m_Mod_value.2.1 31 = .ok (.lreturn, 1) := by decide +kernel
theorem d_Mod_asked_0 : decode m_Mod_asked.2.1 0 = .ok (.aload_n 0, 1) := by decide +kernel
theorem d_Mod_asked_1 : decode m_Mod_asked.2.1 1 = .ok (.aload_n 0, 1) := by decide +kernel
theorem d_Mod_asked_2 : decode m_Mod_asked.2.1 2 = .ok (.iload_n 1, 1) := by decide +kernel
theorem d_Mod_asked_3 : decode m_Mod_asked.2.1 3 = .ok (.invokevirtual 82, 3) := by decide +kernel
theorem d_Mod_asked_6 : decode m_Mod_asked.2.1 6 = .ok (.ifCond .eq 7, 3) := by decide +kernel
theorem d_Mod_asked_9 : decode m_Mod_asked.2.1 9 = .ok (.iconst 0, 1) := by decide +kernel
theorem d_Mod_asked_10 : decode m_Mod_asked.2.1 10 = .ok (.goto 4, 3) := by decide +kernel
theorem d_Mod_asked_13 : decode m_Mod_asked.2.1 13 = .ok (.iconst 1, 1) := by decide +kernel
theorem d_Mod_asked_14 : decode m_Mod_asked.2.1 14 = .ok (.putfield 73, 3) := by decide +kernel
theorem d_Mod_asked_17 : decode m_Mod_asked.2.1 17 = .ok (.aload_n 0, 1) := by decide +kernel
theorem d_Mod_asked_18 : decode m_Mod_asked.2.1 18 = .ok (.getfield 73, 3) := by decide +kernel
theorem d_Mod_asked_21 : decode m_Mod_asked.2.1 21 = .ok (.ifCond .le 5, 3) := by decide +kernel
theorem d_Mod_asked_24 : decode m_Mod_asked.2.1 24 = .ok (.iconst (-1), 1) := by decide +kernel
theorem d_Mod_asked_25 : decode m_Mod_asked.2.1 25 = .ok (.ireturn, 1) := by decide +kernel
theorem d_Mod_asked_26 : decode m_Mod_asked.2.1 26 = .ok (.aload_n 0, 1) := by decide +kernel
theorem d_Mod_asked_27 : decode m_Mod_asked.2.1 27 = .ok (.iload_n 1, 1) := by decide +kernel
theorem d_Mod_asked_28 : decode m_Mod_asked.2.1 28 = .ok (.lload_n 2, 1) := by decide +kernel
theorem d_Mod_asked_29 : decode m_Mod_asked.2.1 29 = .ok (.invokevirtual 86, 3) := by decide +kernel
theorem d_Mod_asked_32 : decode m_Mod_asked.2.1 32 = .ok (.istore 5, 2) := by decide +kernel
theorem d_Mod_asked_34 : decode m_Mod_asked.2.1 34 = .ok (.aload_n 0, 1) := by decide +kernel
theorem d_Mod_asked_35 : decode m_Mod_asked.2.1 35 = .ok (.iload 4, 2) := by decide +kernel
theorem d_Mod_asked_37 : decode m_Mod_asked.2.1 37 = .ok (.ifCond .lt 14, 3) := by decide +kernel
theorem d_Mod_asked_40 : decode m_Mod_asked.2.1 40 = .ok (.iload 4, 2) := by decide +kernel
theorem d_Mod_asked_42 : decode m_Mod_asked.2.1 42 = .ok (.aload_n 0, 1) := by decide +kernel
theorem d_Mod_asked_43 : decode m_Mod_asked.2.1 43 = .ok (.getfield 7, 3) := by decide +kernel
theorem d_Mod_asked_46 : decode m_Mod_asked.2.1 46 = .ok (.iload_n 1, 1) := by decide +kernel
theorem d_Mod_asked_47 : decode m_Mod_asked.2.1 47 = .ok (.iaload, 1) := by decide +kernel
theorem d_Mod_asked_48 : decode m_Mod_asked.2.1 48 = .ok (.if_icmp .lt 7, 3) := by decide +kernel
theorem d_Mod_asked_51 : decode m_Mod_asked.2.1 51 = .ok (.iconst 1, 1) := by decide +kernel
theorem d_Mod_asked_52 : decode m_Mod_asked.2.1 52 = .ok (.goto 13, 3) := by decide +kernel
theorem d_Mod_asked_55 : decode m_Mod_asked.2.1 55 = .ok (.iload 5, 2) := by decide +kernel
theorem d_Mod_asked_57 : decode m_Mod_asked.2.1 57 = .ok (.ifCond .ge 7, 3) := by decide +kernel
theorem d_Mod_asked_60 : decode m_Mod_asked.2.1 60 = .ok (.iconst 2, 1) := by decide +kernel
theorem d_Mod_asked_61 : decode m_Mod_asked.2.1 61 = .ok (.goto 4, 3) := by decide +kernel
theorem d_Mod_asked_64 : decode m_Mod_asked.2.1 64 = .ok (.iconst 0, 1) := by decide +kernel
theorem d_Mod_asked_65 : decode m_Mod_asked.2.1 65 = .ok (.putfield 73, 3) := by decide +kernel
theorem d_Mod_asked_68 : decode m_Mod_asked.2.1 68 = .ok (.aload_n 0, 1) := by decide +kernel
theorem d_Mod_asked_69 : decode m_Mod_asked.2.1 69 = .ok (.getfield 73, 3) := by decide +kernel
theorem d_Mod_asked_72 : decode m_Mod_asked.2.1 72 = .ok (.ifCond .le 7, 3) := by decide +kernel
theorem d_Mod_asked_75 : decode m_Mod_asked.2.1 75 = .ok (.iconst (-1), 1) := by decide +kernel
theorem d_Mod_asked_76 : decode m_Mod_asked.2.1 76 = .ok (.goto 5, 3) := by decide +kernel
theorem d_Mod_asked_79 : decode m_Mod_asked.2.1 79 = .ok (.iload 5, 2) := by decide +kernel
theorem d_Mod_asked_81 : decode m_Mod_asked.2.1 81 = .ok (.ireturn, 1) := by decide +kernel
theorem d_Mod_isNull_0 : decode m_Mod_isNull.2.1 0 = .ok (.aload_n 0, 1) := by decide +kernel
theorem d_Mod_isNull_1 : decode m_Mod_isNull.2.1 1 = .ok (.iload_n 1, 1) := by decide +kernel
theorem d_Mod_isNull_2 : decode m_Mod_isNull.2.1 2 = .ok (.lload_n 2, 1) := by decide +kernel
theorem d_Mod_isNull_3 : decode m_Mod_isNull.2.1 3 = .ok (.iload 4, 2) := by decide +kernel
theorem d_Mod_isNull_5 : decode m_Mod_isNull.2.1 5 = .ok (.invokevirtual 102, 3) := by decide +kernel
theorem d_Mod_isNull_8 : decode m_Mod_isNull.2.1 8 = .ok (.istore 5, 2) := by decide +kernel
theorem d_Mod_isNull_10 : decode m_Mod_isNull.2.1 10 = .ok (.iload 5, 2) := by decide +kernel
theorem d_Mod_isNull_12 : decode m_Mod_isNull.2.1 12 = .ok (.ifCond .lt 22, 3) := by decide +kernel
theorem d_Mod_isNull_15 : decode m_Mod_isNull.2.1 15 = .ok (.aload_n 0, 1) := by decide +kernel
theorem d_Mod_isNull_16 : decode m_Mod_isNull.2.1 16 = .ok (.getfield 23, 3) := by decide +kernel
theorem d_Mod_isNull_19 : decode m_Mod_isNull.2.1 19 = .ok (.iconst 4, 1) := by decide +kernel
theorem d_Mod_isNull_20 : decode m_Mod_isNull.2.1 20 = .ok (.iload 5, 2) := by decide +kernel
theorem d_Mod_isNull_22 : decode m_Mod_isNull.2.1 22 = .ok (.imul, 1) := by decide +kernel
theorem d_Mod_isNull_23 : decode m_Mod_isNull.2.1 23 = .ok (.iload 4, 2) := by decide +kernel
theorem d_Mod_isNull_25 : decode m_Mod_isNull.2.1 25 = .ok (.iadd, 1) := by decide +kernel
theorem d_Mod_isNull_26 : decode m_Mod_isNull.2.1 26 = .ok (.baload, 1) := by decide +kernel
theorem d_Mod_isNull_27 : decode m_Mod_isNull.2.1 27 = .ok (.ifCond .ne 7, 3) := by decide +kernel
theorem d_Mod_isNull_30 : decode m_Mod_isNull.2.1 30 = .ok (.iconst 1, 1) := by decide +kernel
theorem d_Mod_isNull_31 : decode m_Mod_isNull.2.1 31 = .ok (.goto 4, 3) := by decide +kernel
theorem d_Mod_isNull_34 : decode m_Mod_isNull.2.1 34 = .ok (.iconst 0, 1) := by decide +kernel
theorem d_Mod_isNull_35 : decode m_Mod_isNull.2.1 35 = .ok (.ireturn, 1) := by decide +kernel
theorem d_Mod_add_0 : decode m_Mod_add.2.1 0 = .ok (.aload_n 0, 1) := by decide +kernel
theorem d_Mod_add_1 : decode m_Mod_add.2.1 1 = .ok (.iload_n 1, 1) := by decide +kernel
theorem d_Mod_add_2 : decode m_Mod_add.2.1 2 = .ok (.iload_n 2, 1) := by decide +kernel
theorem d_Mod_add_3 : decode m_Mod_add.2.1 3 = .ok (.iload_n 3, 1) := by decide +kernel
theorem d_Mod_add_4 : decode m_Mod_add.2.1 4 = .ok (.iload 4, 2) := by decide +kernel
theorem d_Mod_add_6 : decode m_Mod_add.2.1 6 = .ok (.invokestatic 117, 3) := by decide +kernel
theorem d_Mod_add_9 : decode m_Mod_add.2.1 9 = .ok (.ifCond .ne 7, 3) := by decide +kernel
theorem d_Mod_add_12 : decode m_Mod_add.2.1 12 = .ok (.iconst 1, 1) := by decide +kernel
theorem d_Mod_add_13 : decode m_Mod_add.2.1 13 = .ok (.goto 17, 3) := by decide +kernel
theorem d_Mod_add_16 : decode m_Mod_add.2.1 16 = .ok (.aload_n 0, 1) := by decide +kernel
theorem d_Mod_add_17 : decode m_Mod_add.2.1 17 = .ok (.getfield 110, 3) := by decide +kernel
theorem d_Mod_add_20 : decode m_Mod_add.2.1 20 = .ok (.bipush 60, 2) := by decide +kernel
theorem d_Mod_add_22 : decode m_Mod_add.2.1 22 = .ok (.if_icmp .ne 7, 3) := by decide +kernel
theorem d_Mod_add_25 : decode m_Mod_add.2.1 25 = .ok (.iconst 2, 1) := by decide +kernel
theorem d_Mod_add_26 : decode m_Mod_add.2.1 26 = .ok (.goto 4, 3) := by decide +kernel
theorem d_Mod_add_29 : decode m_Mod_add.2.1 29 = .ok (.iconst 0, 1) := by decide +kernel
theorem d_Mod_add_30 : decode m_Mod_add.2.1 30 = .ok (.putfield 73, 3) := by decide +kernel
theorem d_Mod_add_33 : decode m_Mod_add.2.1 33 = .ok (.aload_n 0, 1) := by decide +kernel
theorem d_Mod_add_34 : decode m_Mod_add.2.1 34 = .ok (.getfield 73, 3) := by decide +kernel
theorem d_Mod_add_37 : decode m_Mod_add.2.1 37 = .ok (.ifCond .le 5, 3) := by decide +kernel
theorem d_Mod_add_40 : decode m_Mod_add.2.1 40 = .ok (.iconst 0, 1) := by decide +kernel
theorem d_Mod_add_41 : decode m_Mod_add.2.1 41 = .ok (.ireturn, 1) := by decide +kernel
theorem d_Mod_add_42 : decode m_Mod_add.2.1 42 = .ok (.aload_n 0, 1) := by decide +kernel
theorem d_Mod_add_43 : decode m_Mod_add.2.1 43 = .ok (.iload_n 1, 1) := by decide +kernel
theorem d_Mod_add_44 : decode m_Mod_add.2.1 44 = .ok (.iload_n 2, 1) := by decide +kernel
theorem d_Mod_add_45 : decode m_Mod_add.2.1 45 = .ok (.iload_n 3, 1) := by decide +kernel
theorem d_Mod_add_46 : decode m_Mod_add.2.1 46 = .ok (.iload 4, 2) := by decide +kernel
theorem d_Mod_add_48 : decode m_Mod_add.2.1 48 = .ok (.invokevirtual 121, 3) := by decide +kernel
theorem d_Mod_add_51 : decode m_Mod_add.2.1 51 = .ok (.aload_n 0, 1) := by decide +kernel
theorem d_Mod_add_52 : decode m_Mod_add.2.1 52 = .ok (.getfield 110, 3) := by decide +kernel
theorem d_Mod_add_55 : decode m_Mod_add.2.1 55 = .ok (.iconst 1, 1) := by decide +kernel
theorem d_Mod_add_56 : decode m_Mod_add.2.1 56 = .ok (.isub, 1) := by decide +kernel
theorem d_Mod_add_57 : decode m_Mod_add.2.1 57 = .ok (.ireturn, 1) := by decide +kernel
theorem d_Mod_fits_0 : decode m_Mod_fits.2.1 0 = .ok (.iload_n 0, 1) := by decide +kernel
theorem d_Mod_fits_1 : decode m_Mod_fits.2.1 1 = .ok (.tableswitch 385 0 21 #[103, 105, 127, 127, 150, 181, 204, 211, 218, 385, 385, 385, 385, 385, 385, 250, 250, 274, 307, 340, 347, 379], 103) := by decide +kernel
theorem d_Mod_fits_104 : decode m_Mod_fits.2.1 104 = .ok (.iconst 1, 1) := by decide +kernel
theorem d_Mod_fits_105 : decode m_Mod_fits.2.1 105 = .ok (.ireturn, 1) := by decide +kernel
theorem d_Mod_fits_106 : decode m_Mod_fits.2.1 106 = .ok (.iload_n 1, 1) := by decide +kernel
theorem d_Mod_fits_107 : decode m_Mod_fits.2.1 107 = .ok (.iconst 2, 1) := by decide +kernel
theorem d_Mod_fits_108 : decode m_Mod_fits.2.1 108 = .ok (.invokestatic 106, 3) := by decide +kernel
theorem d_Mod_fits_111 : decode m_Mod_fits.2.1 111 = .ok (.ifCond .eq 15, 3) := by decide +kernel
theorem d_Mod_fits_114 : decode m_Mod_fits.2.1 114 = .ok (.iload_n 2, 1) := by decide +kernel
theorem d_Mod_fits_115 : decode m_Mod_fits.2.1 115 = .ok (.iconst 2, 1) := by decide +kernel
theorem d_Mod_fits_116 : decode m_Mod_fits.2.1 116 = .ok (.invokestatic 106, 3) := by decide +kernel
theorem d_Mod_fits_119 : decode m_Mod_fits.2.1 119 = .ok (.ifCond .eq 7, 3) := by decide +kernel
theorem d_Mod_fits_122 : decode m_Mod_fits.2.1 122 = .ok (.iconst 1, 1) := by decide +kernel
theorem d_Mod_fits_123 : decode m_Mod_fits.2.1 123 = .ok (.goto 4, 3) := by decide +kernel
theorem d_Mod_fits_126 : decode m_Mod_fits.2.1 126 = .ok (.iconst 0, 1) := by decide +kernel
theorem d_Mod_fits_127 : decode m_Mod_fits.2.1 127 = .ok (.ireturn, 1) := by decide +kernel
theorem d_Mod_fits_128 : decode m_Mod_fits.2.1 128 = .ok (.iload_n 1, 1) := by decide +kernel
theorem d_Mod_fits_129 : decode m_Mod_fits.2.1 129 = .ok (.iconst 2, 1) := by decide +kernel
theorem d_Mod_fits_130 : decode m_Mod_fits.2.1 130 = .ok (.invokestatic 106, 3) := by decide +kernel
theorem d_Mod_fits_133 : decode m_Mod_fits.2.1 133 = .ok (.ifCond .eq 16, 3) := by decide +kernel
theorem d_Mod_fits_136 : decode m_Mod_fits.2.1 136 = .ok (.iload_n 2, 1) := by decide +kernel
theorem d_Mod_fits_137 : decode m_Mod_fits.2.1 137 = .ok (.bipush 60, 2) := by decide +kernel
theorem d_Mod_fits_139 : decode m_Mod_fits.2.1 139 = .ok (.invokestatic 106, 3) := by decide +kernel
theorem d_Mod_fits_142 : decode m_Mod_fits.2.1 142 = .ok (.ifCond .eq 7, 3) := by decide +kernel
theorem d_Mod_fits_145 : decode m_Mod_fits.2.1 145 = .ok (.iconst 1, 1) := by decide +kernel
theorem d_Mod_fits_146 : decode m_Mod_fits.2.1 146 = .ok (.goto 4, 3) := by decide +kernel
theorem d_Mod_fits_149 : decode m_Mod_fits.2.1 149 = .ok (.iconst 0, 1) := by decide +kernel
theorem d_Mod_fits_150 : decode m_Mod_fits.2.1 150 = .ok (.ireturn, 1) := by decide +kernel
