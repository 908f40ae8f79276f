theorem d_Que_init_0 : decode m_Que_init.2.1 0 = .ok (.aload_n 0, 1) := by decide +kernel
theorem d_Que_init_1 : decode m_Que_init.2.1 1 = .ok (.invokespecial 3, 3) := by decide +kernel
theorem d_Que_init_4 : decode m_Que_init.2.1 4 = .ok (.aload_n 0, 1) := by decide +kernel
theorem d_Que_init_5 : decode m_Que_init.2.1 5 = .ok (.iconst 2, 1) := by decide +kernel
theorem d_Que_init_6 : decode m_Que_init.2.1 6 = .ok (.newarray .int, 2) := by decide +kernel
theorem d_Que_init_8 : decode m_Que_init.2.1 8 = .ok (.putfield 9, 3) := by decide +kernel
theorem d_Que_init_11 : decode m_Que_init.2.1 11 = .ok (.aload_n 0, 1) := by decide +kernel
theorem d_Que_init_12 : decode m_Que_init.2.1 12 = .ok (.iconst 0, 1) := by decide +kernel
theorem d_Que_init_13 : decode m_Que_init.2.1 13 = .ok (.putfield 15, 3) := by decide +kernel
theorem d_Que_init_16 : decode m_Que_init.2.1 16 = .ok (.aload_n 0, 1) := by decide +kernel
theorem d_Que_init_17 : decode m_Que_init.2.1 17 = .ok (.iconst 0, 1) := by decide +kernel
theorem d_Que_init_18 : decode m_Que_init.2.1 18 = .ok (.putfield 19, 3) := by decide +kernel
theorem d_Que_init_21 : decode m_Que_init.2.1 21 = .ok (.aload_n 0, 1) := by decide +kernel
theorem d_Que_init_22 : decode m_Que_init.2.1 22 = .ok (.iconst 0, 1) := by decide +kernel
theorem d_Que_init_23 : decode m_Que_init.2.1 23 = .ok (.putfield 22, 3) := by decide +kernel
theorem d_Que_init_26 : decode m_Que_init.2.1 26 = .ok (.aload_n 0, 1) := by decide +kernel
theorem d_Que_init_27 : decode m_Que_init.2.1 27 = .ok (.iconst 4, 1) := by decide +kernel
theorem d_Que_init_28 : decode m_Que_init.2.1 28 = .ok (.newarray .int, 2) := by decide +kernel
theorem d_Que_init_30 : decode m_Que_init.2.1 30 = .ok (.putfield 25, 3) := by decide +kernel
theorem d_Que_init_33 : decode m_Que_init.2.1 33 = .ok (.aload_n 0, 1) := by decide +kernel
theorem d_Que_init_34 : decode m_Que_init.2.1 34 = .ok (.iconst 4, 1) := by decide +kernel
theorem d_Que_init_35 : decode m_Que_init.2.1 35 = .ok (.newarray .int, 2) := by decide +kernel
theorem d_Que_init_37 : decode m_Que_init.2.1 37 = .ok (.putfield 28, 3) := by decide +kernel
theorem d_Que_init_40 : decode m_Que_init.2.1 40 = .ok (.aload_n 0, 1) := by decide +kernel
theorem d_Que_init_41 : decode m_Que_init.2.1 41 = .ok (.iconst 4, 1) := by decide +kernel
theorem d_Que_init_42 : decode m_Que_init.2.1 42 = .ok (.newarray .int, 2) := by decide +kernel
theorem d_Que_init_44 : decode m_Que_init.2.1 44 = .ok (.putfield 31, 3) := by decide +kernel
theorem d_Que_init_47 : decode m_Que_init.2.1 47 = .ok (.aload_n 0, 1) := by decide +kernel
theorem d_Que_init_48 : decode m_Que_init.2.1 48 = .ok (.iconst 4, 1) := by decide +kernel
theorem d_Que_init_49 : decode m_Que_init.2.1 49 = .ok (.newarray .int, 2) := by decide +kernel
theorem d_Que_init_51 : decode m_Que_init.2.1 51 = .ok (.putfield 34, 3) := by decide +kernel
theorem d_Que_init_54 : decode m_Que_init.2.1 54 = .ok (.aload_n 0, 1) := by decide +kernel
theorem d_Que_init_55 : decode m_Que_init.2.1 55 = .ok (.iconst 4, 1) := by decide +kernel
theorem d_Que_init_56 : decode m_Que_init.2.1 56 = .ok (.newarray .int, 2) := by decide +kernel
theorem d_Que_init_58 : decode m_Que_init.2.1 58 = .ok (.putfield 37, 3) := by decide +kernel
theorem d_Que_init_61 : decode m_Que_init.2.1 61 = .ok (.aload_n 0, 1) := by decide +kernel
theorem d_Que_init_62 : decode m_Que_init.2.1 62 = .ok (.iconst 4, 1) := by decide +kernel
theorem d_Que_init_63 : decode m_Que_init.2.1 63 = .ok (.newarray .int, 2) := by decide +kernel
theorem d_Que_init_65 : decode m_Que_init.2.1 65 = .ok (.putfield 40, 3) := by decide +kernel
theorem d_Que_init_68 : decode m_Que_init.2.1 68 = .ok (.aload_n 0, 1) := by decide +kernel
theorem d_Que_init_69 : decode m_Que_init.2.1 69 = .ok (.iconst 0, 1) := by decide +kernel
theorem d_Que_init_70 : decode m_Que_init.2.1 70 = .ok (.putfield 43, 3) := by decide +kernel
theorem d_Que_init_73 : decode m_Que_init.2.1 73 = .ok (.aload_n 0, 1) := by decide +kernel
theorem d_Que_init_74 : decode m_Que_init.2.1 74 = .ok (.iconst (-1), 1) := by decide +kernel
theorem d_Que_init_75 : decode m_Que_init.2.1 75 = .ok (.putfield 47, 3) := by decide +kernel
theorem d_Que_init_78 : decode m_Que_init.2.1 78 = .ok (.aload_n 0, 1) := by decide +kernel
theorem d_Que_init_79 : decode m_Que_init.2.1 79 = .ok (.iconst (-1), 1) := by decide +kernel
theorem d_Que_init_80 : decode m_Que_init.2.1 80 = .ok (.putfield 50, 3) := by decide +kernel
theorem d_Que_init_83 : decode m_Que_init.2.1 83 = .ok (.return_, 1) := by decide +kernel
theorem d_Que_begin_0 : decode m_Que_begin.2.1 0 = .ok (.aload_n 0, 1) := by decide +kernel
theorem d_Que_begin_1 : decode m_Que_begin.2.1 1 = .ok (.getfield 9, 3) := by decide +kernel
theorem d_Que_begin_4 : decode m_Que_begin.2.1 4 = .ok (.iconst 0, 1) := by decide +kernel
theorem d_Que_begin_5 : decode m_Que_begin.2.1 5 = .ok (.iload_n 1, 1) := by decide +kernel
theorem d_Que_begin_6 : decode m_Que_begin.2.1 6 = .ok (.iastore, 1) := by decide +kernel
theorem d_Que_begin_7 : decode m_Que_begin.2.1 7 = .ok (.aload_n 0, 1) := by decide +kernel
theorem d_Que_begin_8 : decode m_Que_begin.2.1 8 = .ok (.getfield 9, 3) := by decide +kernel
theorem d_Que_begin_11 : decode m_Que_begin.2.1 11 = .ok (.iconst 1, 1) := by decide +kernel
theorem d_Que_begin_12 : decode m_Que_begin.2.1 12 = .ok (.iload_n 2, 1) := by decide +kernel
theorem d_Que_begin_13 : decode m_Que_begin.2.1 13 = .ok (.iastore, 1) := by decide +kernel
theorem d_Que_begin_14 : decode m_Que_begin.2.1 14 = .ok (.aload_n 0, 1) := by decide +kernel
theorem d_Que_begin_15 : decode m_Que_begin.2.1 15 = .ok (.iload_n 2, 1) := by decide +kernel
theorem d_Que_begin_16 : decode m_Que_begin.2.1 16 = .ok (.iconst (-1), 1) := by decide +kernel
theorem d_Que_begin_17 : decode m_Que_begin.2.1 17 = .ok (.if_icmp .ne 7, 3) := by decide +kernel
theorem d_Que_begin_20 : decode m_Que_begin.2.1 20 = .ok (.iconst 1, 1) := by decide +kernel
theorem d_Que_begin_21 : decode m_Que_begin.2.1 21 = .ok (.goto 4, 3) := by decide +kernel
theorem d_Que_begin_24 : decode m_Que_begin.2.1 24 = .ok (.iconst 2, 1) := by decide +kernel
theorem d_Que_begin_25 : decode m_Que_begin.2.1 25 = .ok (.putfield 22, 3) := by decide +kernel
theorem d_Que_begin_28 : decode m_Que_begin.2.1 28 = .ok (.aload_n 0, 1) := by decide +kernel
theorem d_Que_begin_29 : decode m_Que_begin.2.1 29 = .ok (.iconst 0, 1) := by decide +kernel
theorem d_Que_begin_30 : decode m_Que_begin.2.1 30 = .ok (.putfield 15, 3) := by decide +kernel
theorem d_Que_begin_33 : decode m_Que_begin.2.1 33 = .ok (.aload_n 0, 1) := by decide +kernel
theorem d_Que_begin_34 : decode m_Que_begin.2.1 34 = .ok (.iconst 0, 1) := by decide +kernel
theorem d_Que_begin_35 : decode m_Que_begin.2.1 35 = .ok (.putfield 19, 3) := by decide +kernel
theorem d_Que_begin_38 : decode m_Que_begin.2.1 38 = .ok (.aload_n 0, 1) := by decide +kernel
theorem d_Que_begin_39 : decode m_Que_begin.2.1 39 = .ok (.iconst 0, 1) := by decide +kernel
theorem d_Que_begin_40 : decode m_Que_begin.2.1 40 = .ok (.putfield 43, 3) := by decide +kernel
theorem d_Que_begin_43 : decode m_Que_begin.2.1 43 = .ok (.return_, 1) := by decide +kernel
theorem d_Que_hasCursor_0 : decode m_Que_hasCursor.2.1 0 = .ok (.iload_n 1, 1) := by decide +kernel
theorem d_Que_hasCursor_1 : decode m_Que_hasCursor.2.1 1 = .ok (.aload_n 0, 1) := by decide +kernel
theorem d_Que_hasCursor_2 : decode m_Que_hasCursor.2.1 2 = .ok (.getfield 22, 3) := by decide +kernel
theorem d_Que_hasCursor_5 : decode m_Que_hasCursor.2.1 5 = .ok (.invokestatic 53, 3) := by decide +kernel
theorem d_Que_hasCursor_8 : decode m_Que_hasCursor.2.1 8 = .ok (.ireturn, 1) := by decide +kernel
theorem d_Que_bringOutput_0 : decode m_Que_bringOutput.2.1 0 = .ok (.aload_n 0, 1) := by decide +kernel
theorem d_Que_bringOutput_1 : decode m_Que_bringOutput.2.1 1 = .ok (.getfield 25, 3) := by decide +kernel
theorem d_Que_bringOutput_4 : decode m_Que_bringOutput.2.1 4 = .ok (.aload_n 0, 1) := by decide +kernel
theorem d_Que_bringOutput_5 : decode m_Que_bringOutput.2.1 5 = .ok (.getfield 15, 3) := by decide +kernel
theorem d_Que_bringOutput_8 : decode m_Que_bringOutput.2.1 8 = .ok (.iload_n 1, 1) := by decide +kernel
theorem d_Que_bringOutput_9 : decode m_Que_bringOutput.2.1 9 = .ok (.iastore, 1) := by decide +kernel
theorem d_Que_bringOutput_10 : decode m_Que_bringOutput.2.1 10 = .ok (.aload_n 0, 1) := by decide +kernel
theorem d_Que_bringOutput_11 : decode m_Que_bringOutput.2.1 11 = .ok (.getfield 28, 3) := by decide +kernel
theorem d_Que_bringOutput_14 : decode m_Que_bringOutput.2.1 14 = .ok (.aload_n 0, 1) := by decide +kernel
theorem d_Que_bringOutput_15 : decode m_Que_bringOutput.2.1 15 = .ok (.getfield 15, 3) := by decide +kernel
theorem d_Que_bringOutput_18 : decode m_Que_bringOutput.2.1 18 = .ok (.iload_n 2, 1) := by decide +kernel
theorem d_Que_bringOutput_19 : decode m_Que_bringOutput.2.1 19 = .ok (.iastore, 1) := by decide +kernel
theorem d_Que_bringOutput_20 : decode m_Que_bringOutput.2.1 20 = .ok (.aload_n 0, 1) := by decide +kernel
theorem d_Que_bringOutput_21 : decode m_Que_bringOutput.2.1 21 = .ok (.dup, 1) := by decide +kernel
theorem d_Que_bringOutput_22 : decode m_Que_bringOutput.2.1 22 = .ok (.getfield 15, 3) := by decide +kernel
theorem d_Que_bringOutput_25 : decode m_Que_bringOutput.2.1 25 = .ok (.iconst 1, 1) := by decide +kernel
theorem d_Que_bringOutput_26 : decode m_Que_bringOutput.2.1 26 = .ok (.iadd, 1) := by decide +kernel
theorem d_Que_bringOutput_27 : decode m_Que_bringOutput.2.1 27 = .ok (.putfield 15, 3) := by decide +kernel
theorem d_Que_bringOutput_30 : decode m_Que_bringOutput.2.1 30 = .ok (.return_, 1) := by decide +kernel
theorem d_Que_bringCondition_0 : decode m_Que_bringCondition.2.1 0 = .ok (.aload_n 0, 1) := by decide +kernel
theorem d_Que_bringCondition_1 : decode m_Que_bringCondition.2.1 1 = .ok (.getfield 31, 3) := by decide +kernel
theorem d_Que_bringCondition_4 : decode m_Que_bringCondition.2.1 4 = .ok (.aload_n 0, 1) := by decide +kernel
theorem d_Que_bringCondition_5 : decode m_Que_bringCondition.2.1 5 = .ok (.getfield 19, 3) := by decide +kernel
theorem d_Que_bringCondition_8 : decode m_Que_bringCondition.2.1 8 = .ok (.iload_n 1, 1) := by decide +kernel
theorem d_Que_bringCondition_9 : decode m_Que_bringCondition.2.1 9 = .ok (.iastore, 1) := by decide +kernel
theorem d_Que_bringCondition_10 : decode m_Que_bringCondition.2.1 10 = .ok (.aload_n 0, 1) := by decide +kernel
theorem d_Que_bringCondition_11 : decode m_Que_bringCondition.2.1 11 = .ok (.getfield 34, 3) := by decide +kernel
theorem d_Que_bringCondition_14 : decode m_Que_bringCondition.2.1 14 = .ok (.aload_n 0, 1) := by decide +kernel
theorem d_Que_bringCondition_15 : decode m_Que_bringCondition.2.1 15 = .ok (.getfield 19, 3) := by decide +kernel
theorem d_Que_bringCondition_18 : decode m_Que_bringCondition.2.1 18 = .ok (.iload_n 2, 1) := by decide +kernel
theorem d_Que_bringCondition_19 : decode m_Que_bringCondition.2.1 19 = .ok (.iastore, 1) := by decide +kernel
theorem d_Que_bringCondition_20 : decode m_Que_bringCondition.2.1 20 = .ok (.aload_n 0, 1) := by decide +kernel
theorem d_Que_bringCondition_21 : decode m_Que_bringCondition.2.1 21 = .ok (.getfield 37, 3) := by decide +kernel
theorem d_Que_bringCondition_24 : decode m_Que_bringCondition.2.1 24 = .ok (.aload_n 0, 1) := by decide +kernel
theorem d_Que_bringCondition_25 : decode m_Que_bringCondition.2.1 25 = .ok (.getfield 19, 3) := by decide +kernel
theorem d_Que_bringCondition_28 : decode m_Que_bringCondition.2.1 28 = .ok (.iload_n 3, 1) := by decide +kernel
theorem d_Que_bringCondition_29 : decode m_Que_bringCondition.2.1 29 = .ok (.iastore, 1) := by decide +kernel
theorem d_Que_bringCondition_30 : decode m_Que_bringCondition.2.1 30 = .ok (.aload_n 0, 1) := by decide +kernel
theorem d_Que_bringCondition_31 : decode m_Que_bringCondition.2.1 31 = .ok (.getfield 40, 3) := by decide +kernel
theorem d_Que_bringCondition_34 : decode m_Que_bringCondition.2.1 34 = .ok (.aload_n 0, 1) := by decide +kernel
theorem d_Que_bringCondition_35 : decode m_Que_bringCondition.2.1 35 = .ok (.getfield 19, 3) := by decide +kernel
theorem d_Que_bringCondition_38 : decode m_Que_bringCondition.2.1 38 = .ok (.iload 4, 2) := by decide +kernel
theorem d_Que_bringCondition_40 : decode m_Que_bringCondition.2.1 40 = .ok (.iastore, 1) := by decide +kernel
theorem d_Que_bringCondition_41 : decode m_Que_bringCondition.2.1 41 = .ok (.aload_n 0, 1) := by decide +kernel
theorem d_Que_bringCondition_42 : decode m_Que_bringCondition.2.1 42 = .ok (.dup, 1) := by decide +kernel
theorem d_Que_bringCondition_43 : decode m_Que_bringCondition.2.1 43 = .ok (.getfield 19, 3) := by decide +kernel
theorem d_Que_bringCondition_46 : decode m_Que_bringCondition.2.1 46 = .ok (.iconst 1, 1) := by decide +kernel
theorem d_Que_bringCondition_47 : decode m_Que_bringCondition.2.1 47 = .ok (.iadd, 1) := by decide +kernel
theorem d_Que_bringCondition_48 : decode m_Que_bringCondition.2.1 48 = .ok (.putfield 19, 3) := by decide +kernel
theorem d_Que_bringCondition_51 : decode m_Que_bringCondition.2.1 51 = .ok (.return_, 1) := by decide +kernel
theorem d_Que_bringJoin_0 : decode m_Que_bringJoin.2.1 0 = .ok (.aload_n 0, 1) := by decide +kernel
theorem d_Que_bringJoin_1 : decode m_Que_bringJoin.2.1 1 = .ok (.iconst 1, 1) := by decide +kernel
theorem d_Que_bringJoin_2 : decode m_Que_bringJoin.2.1 2 = .ok (.putfield 43, 3) := by decide +kernel
theorem d_Que_bringJoin_5 : decode m_Que_bringJoin.2.1 5 = .ok (.aload_n 0, 1) := by decide +kernel
theorem d_Que_bringJoin_6 : decode m_Que_bringJoin.2.1 6 = .ok (.iload_n 1, 1) := by decide +kernel
theorem d_Que_bringJoin_7 : decode m_Que_bringJoin.2.1 7 = .ok (.putfield 47, 3) := by decide +kernel
theorem d_Que_bringJoin_10 : decode m_Que_bringJoin.2.1 10 = .ok (.aload_n 0, 1) := by decide +kernel
theorem d_Que_bringJoin_11 : decode m_Que_bringJoin.2.1 11 = .ok (.iload_n 2, 1) := by decide +kernel
theorem d_Que_bringJoin_12 : decode m_Que_bringJoin.2.1 12 = .ok (.putfield 50, 3) := by decide +kernel
theorem d_Que_bringJoin_15 : decode m_Que_bringJoin.2.1 15 = .ok (.return_, 1) := by decide +kernel
theorem d_Que_writeTo_0 : decode m_Que_writeTo.2.1 0 = .ok (.iload_n 2, 1) := by decide +kernel
theorem d_Que_writeTo_1 : decode m_Que_writeTo.2.1 1 = .ok (.iconst 1, 1) := by decide +kernel
theorem d_Que_writeTo_2 : decode m_Que_writeTo.2.1 2 = .ok (.isub, 1) := by decide +kernel
theorem d_Que_writeTo_3 : decode m_Que_writeTo.2.1 3 = .ok (.istore_n 3, 1) := by decide +kernel
theorem d_Que_writeTo_4 : decode m_Que_writeTo.2.1 4 = .ok (.iload_n 3, 1) := by decide +kernel
theorem d_Que_writeTo_5 : decode m_Que_writeTo.2.1 5 = .ok (.iconst 1, 1) := by decide +kernel
theorem d_Que_writeTo_6 : decode m_Que_writeTo.2.1 6 = .ok (.isub, 1) := by decide +kernel
theorem d_Que_writeTo_7 : decode m_Que_writeTo.2.1 7 = .ok (.istore 4, 2) := by decide +kernel
theorem d_Que_writeTo_9 : decode m_Que_writeTo.2.1 9 = .ok (.aload_n 1, 1) := by decide +kernel
theorem d_Que_writeTo_10 : decode m_Que_writeTo.2.1 10 = .ok (.iconst 0, 1) := by decide +kernel
theorem d_Que_writeTo_11 : decode m_Que_writeTo.2.1 11 = .ok (.putfield 57, 3) := by decide +kernel
theorem d_Que_writeTo_14 : decode m_Que_writeTo.2.1 14 = .ok (.iconst 0, 1) := by decide +kernel
theorem d_Que_writeTo_15 : decode m_Que_writeTo.2.1 15 = .ok (.istore 5, 2) := by decide +kernel
theorem d_Que_writeTo_17 : decode m_Que_writeTo.2.1 17 = .ok (.iload 5, 2) := by decide +kernel
theorem d_Que_writeTo_19 : decode m_Que_writeTo.2.1 19 = .ok (.aload_n 0, 1) := by decide +kernel
theorem d_Que_writeTo_20 : decode m_Que_writeTo.2.1 20 = .ok (.getfield 22, 3) := by decide +kernel
theorem d_Que_writeTo_23 : decode m_Que_writeTo.2.1 23 = .ok (.if_icmp .ge 24, 3) := by decide +kernel
theorem d_Que_writeTo_26 : decode m_Que_writeTo.2.1 26 = .ok (.aload_n 1, 1) := by decide +kernel
theorem d_Que_writeTo_27 : decode m_Que_writeTo.2.1 27 = .ok (.iconst 1, 1) := by decide +kernel
theorem d_Que_writeTo_28 : decode m_Que_writeTo.2.1 28 = .ok (.iload 5, 2) := by decide +kernel
theorem d_Que_writeTo_30 : decode m_Que_writeTo.2.1 30 = .ok (.aload_n 0, 1) := by decide +kernel
theorem d_Que_writeTo_31 : decode m_Que_writeTo.2.1 31 = .ok (.getfield 9, 3) := by decide +kernel
theorem d_Que_writeTo_34 : decode m_Que_writeTo.2.1 34 = .ok (.iload 5, 2) := by decide +kernel
theorem d_Que_writeTo_36 : decode m_Que_writeTo.2.1 36 = .ok (.iaload, 1) := by decide +kernel
theorem d_Que_writeTo_37 : decode m_Que_writeTo.2.1 37 = .ok (.iconst 0, 1) := by decide +kernel
theorem d_Que_writeTo_38 : decode m_Que_writeTo.2.1 38 = .ok (.invokevirtual 64, 3) := by decide +kernel
theorem d_Que_writeTo_41 : decode m_Que_writeTo.2.1 41 = .ok (.iinc 5 1, 3) := by decide +kernel
theorem d_Que_writeTo_44 : decode m_Que_writeTo.2.1 44 = .ok (.goto (-27), 3) := by decide +kernel
theorem d_Que_writeTo_47 : decode m_Que_writeTo.2.1 47 = .ok (.aload_n 0, 1) := by decide +kernel
theorem d_Que_writeTo_48 : decode m_Que_writeTo.2.1 48 = .ok (.aload_n 1, 1) := by decide +kernel
theorem d_Que_writeTo_49 : decode m_Que_writeTo.2.1 49 = .ok (.iconst 0, 1) := by decide +kernel
theorem d_Que_writeTo_50 : decode m_Que_writeTo.2.1 50 = .ok (.iload_n 3, 1) := by decide +kernel
theorem d_Que_writeTo_51 : decode m_Que_writeTo.2.1 51 = .ok (.invokevirtual 68, 3) := by decide +kernel
theorem d_Que_writeTo_54 : decode m_Que_writeTo.2.1 54 = .ok (.aload_n 1, 1) := by decide +kernel
theorem d_Que_writeTo_55 : decode m_Que_writeTo.2.1 55 = .ok (.getfield 57, 3) := by decide +kernel
theorem d_Que_writeTo_58 : decode m_Que_writeTo.2.1 58 = .ok (.istore 5, 2) := by decide +kernel
theorem d_Que_writeTo_60 : decode m_Que_writeTo.2.1 60 = .ok (.aload_n 0, 1) := by decide +kernel
theorem d_Que_writeTo_61 : decode m_Que_writeTo.2.1 61 = .ok (.aload_n 1, 1) := by decide +kernel
theorem d_Que_writeTo_62 : decode m_Que_writeTo.2.1 62 = .ok (.iconst 0, 1) := by decide +kernel
theorem d_Que_writeTo_63 : decode m_Que_writeTo.2.1 63 = .ok (.iload 4, 2) := by decide +kernel
theorem d_Que_writeTo_65 : decode m_Que_writeTo.2.1 65 = .ok (.invokevirtual 72, 3) := by decide +kernel
theorem d_Que_writeTo_68 : decode m_Que_writeTo.2.1 68 = .ok (.aload_n 0, 1) := by decide +kernel
theorem d_Que_writeTo_69 : decode m_Que_writeTo.2.1 69 = .ok (.getfield 22, 3) := by decide +kernel
theorem d_Que_writeTo_72 : decode m_Que_writeTo.2.1 72 = .ok (.iconst 2, 1) := by decide +kernel
theorem d_Que_writeTo_73 : decode m_Que_writeTo.2.1 73 = .ok (.if_icmp .ne 13, 3) := by decide +kernel
theorem d_Que_writeTo_76 : decode m_Que_writeTo.2.1 76 = .ok (.aload_n 0, 1) := by decide +kernel
theorem d_Que_writeTo_77 : decode m_Que_writeTo.2.1 77 = .ok (.aload_n 1, 1) := by decide +kernel
theorem d_Que_writeTo_78 : decode m_Que_writeTo.2.1 78 = .ok (.iload 4, 2) := by decide +kernel
theorem d_Que_writeTo_80 : decode m_Que_writeTo.2.1 80 = .ok (.invokevirtual 75, 3) := by decide +kernel
theorem d_Que_writeTo_83 : decode m_Que_writeTo.2.1 83 = .ok (.goto 8, 3) := by decide +kernel
theorem d_Que_writeTo_86 : decode m_Que_writeTo.2.1 86 = .ok (.aload_n 0, 1) := by decide +kernel
theorem d_Que_writeTo_87 : decode m_Que_writeTo.2.1 87 = .ok (.aload_n 1, 1) := by decide +kernel
theorem d_Que_writeTo_88 : decode m_Que_writeTo.2.1 88 = .ok (.invokevirtual 79, 3) := by decide +kernel
theorem d_Que_writeTo_91 : decode m_Que_writeTo.2.1 91 = .ok (.aload_n 1, 1) := by decide +kernel
theorem d_Que_writeTo_92 : decode m_Que_writeTo.2.1 92 = .ok (.iconst 3, 1) := by decide +kernel
theorem d_Que_writeTo_93 : decode m_Que_writeTo.2.1 93 = .ok (.iconst 0, 1) := by decide +kernel
theorem d_Que_writeTo_94 : decode m_Que_writeTo.2.1 94 = .ok (.iload 5, 2) := by decide +kernel
theorem d_Que_writeTo_96 : decode m_Que_writeTo.2.1 96 = .ok (.iconst 0, 1) := by decide +kernel
theorem d_Que_writeTo_97 : decode m_Que_writeTo.2.1 97 = .ok (.invokevirtual 64, 3) := by decide +kernel
theorem d_Que_writeTo_100 : decode m_Que_writeTo.2.1 100 = .ok (.aload_n 1, 1) := by decide +kernel
theorem d_Que_writeTo_101 : decode m_Que_writeTo.2.1 101 = .ok (.iconst 0, 1) := by decide +kernel
theorem d_Que_writeTo_102 : decode m_Que_writeTo.2.1 102 = .ok (.iconst 0, 1) := by decide +kernel
theorem d_Que_writeTo_103 : decode m_Que_writeTo.2.1 103 = .ok (.iconst 0, 1) := by decide +kernel
theorem d_Que_writeTo_104 : decode m_Que_writeTo.2.1 104 = .ok (.iconst 0, 1) := by decide +kernel
theorem d_Que_writeTo_105 : decode m_Que_writeTo.2.1 105 = .ok (.invokevirtual 64, 3) := by decide +kernel
theorem d_Que_writeTo_108 : decode m_Que_writeTo.2.1 108 = .ok (.return_, 1) := by decide +kernel
theorem d_Que_writeStart_0 : decode m_Que_writeStart.2.1 0 = .ok (.aload_n 0, 1) := by decide +kernel
theorem d_Que_writeStart_1 : decode m_Que_writeStart.2.1 1 = .ok (.iload_n 2, 1) := by decide +kernel
theorem d_Que_writeStart_2 : decode m_Que_writeStart.2.1 2 = .ok (.invokevirtual 86, 3) := by decide +kernel
theorem d_Que_writeStart_5 : decode m_Que_writeStart.2.1 5 = .ok (.istore 4, 2) := by decide +kernel
theorem d_Que_writeStart_7 : decode m_Que_writeStart.2.1 7 = .ok (.iload 4, 2) := by decide +kernel
theorem d_Que_writeStart_9 : decode m_Que_writeStart.2.1 9 = .ok (.iconst (-1), 1) := by decide +kernel
theorem d_Que_writeStart_10 : decode m_Que_writeStart.2.1 10 = .ok (.if_icmp .ne 14, 3) := by decide +kernel
theorem d_Que_writeStart_13 : decode m_Que_writeStart.2.1 13 = .ok (.aload_n 1, 1) := by decide +kernel
theorem d_Que_writeStart_14 : decode m_Que_writeStart.2.1 14 = .ok (.iconst 2, 1) := by decide +kernel
theorem d_Que_writeStart_15 : decode m_Que_writeStart.2.1 15 = .ok (.iload_n 2, 1) := by decide +kernel
theorem d_Que_writeStart_16 : decode m_Que_writeStart.2.1 16 = .ok (.iload_n 3, 1) := by decide +kernel
theorem d_Que_writeStart_17 : decode m_Que_writeStart.2.1 17 = .ok (.iconst 0, 1) := by decide +kernel
theorem d_Que_writeStart_18 : decode m_Que_writeStart.2.1 18 = .ok (.invokevirtual 64, 3) := by decide +kernel
theorem d_Que_writeStart_21 : decode m_Que_writeStart.2.1 21 = .ok (.goto 27, 3) := by decide +kernel
theorem d_Que_writeStart_24 : decode m_Que_writeStart.2.1 24 = .ok (.aload_n 1, 1) := by decide +kernel
theorem d_Que_writeStart_25 : decode m_Que_writeStart.2.1 25 = .ok (.bipush 6, 2) := by decide +kernel
theorem d_Que_writeStart_27 : decode m_Que_writeStart.2.1 27 = .ok (.aload_n 0, 1) := by decide +kernel
theorem d_Que_writeStart_28 : decode m_Que_writeStart.2.1 28 = .ok (.getfield 40, 3) := by decide +kernel
theorem d_Que_writeStart_31 : decode m_Que_writeStart.2.1 31 = .ok (.iload 4, 2) := by decide +kernel
theorem d_Que_writeStart_33 : decode m_Que_writeStart.2.1 33 = .ok (.iaload, 1) := by decide +kernel
theorem d_Que_writeStart_34 : decode m_Que_writeStart.2.1 34 = .ok (.iconst 0, 1) := by decide +kernel
theorem d_Que_writeStart_35 : decode m_Que_writeStart.2.1 35 = .ok (.iconst 0, 1) := by decide +kernel
theorem d_Que_writeStart_36 : decode m_Que_writeStart.2.1 36 = .ok (.invokevirtual 64, 3) := by decide +kernel
theorem d_Que_writeStart_39 : decode m_Que_writeStart.2.1 39 = .ok (.aload_n 1, 1) := by decide +kernel
theorem d_Que_writeStart_40 : decode m_Que_writeStart.2.1 40 = .ok (.bipush 8, 2) := by decide +kernel
theorem d_Que_writeStart_42 : decode m_Que_writeStart.2.1 42 = .ok (.iload_n 2, 1) := by decide +kernel
theorem d_Que_writeStart_43 : decode m_Que_writeStart.2.1 43 = .ok (.iload_n 3, 1) := by decide +kernel
theorem d_Que_writeStart_44 : decode m_Que_writeStart.2.1 44 = .ok (.iconst 0, 1) := by decide +kernel
theorem d_Que_writeStart_45 : decode m_Que_writeStart.2.1 45 = .ok (.invokevirtual 64, 3) := by decide +kernel
theorem d_Que_writeStart_48 : decode m_Que_writeStart.2.1 48 = .ok (.return_, 1) := by decide +kernel
theorem d_Que_seekable_0 : decode m_Que_seekable.2.1 0 = .ok (.iconst 0, 1) := by decide +kernel
theorem d_Que_seekable_1 : decode m_Que_seekable.2.1 1 = .ok (.istore_n 2, 1) := by decide +kernel
theorem d_Que_seekable_2 : decode m_Que_seekable.2.1 2 = .ok (.iload_n 2, 1) := by decide +kernel
theorem d_Que_seekable_3 : decode m_Que_seekable.2.1 3 = .ok (.aload_n 0, 1) := by decide +kernel
theorem d_Que_seekable_4 : decode m_Que_seekable.2.1 4 = .ok (.getfield 19, 3) := by decide +kernel
theorem d_Que_seekable_7 : decode m_Que_seekable.2.1 7 = .ok (.if_icmp .ge 43, 3) := by decide +kernel
theorem d_Que_seekable_10 : decode m_Que_seekable.2.1 10 = .ok (.aload_n 0, 1) := by decide +kernel
theorem d_Que_seekable_11 : decode m_Que_seekable.2.1 11 = .ok (.getfield 31, 3) := by decide +kernel
theorem d_Que_seekable_14 : decode m_Que_seekable.2.1 14 = .ok (.iload_n 2, 1) := by decide +kernel
theorem d_Que_seekable_15 : decode m_Que_seekable.2.1 15 = .ok (.iaload, 1) := by decide +kernel
theorem d_Que_seekable_16 : decode m_Que_seekable.2.1 16 = .ok (.iload_n 1, 1) := by decide +kernel
theorem d_Que_seekable_17 : decode m_Que_seekable.2.1 17 = .ok (.if_icmp .ne 27, 3) := by decide +kernel
theorem d_Que_seekable_20 : decode m_Que_seekable.2.1 20 = .ok (.aload_n 0, 1) := by decide +kernel
theorem d_Que_seekable_21 : decode m_Que_seekable.2.1 21 = .ok (.getfield 34, 3) := by decide +kernel
theorem d_Que_seekable_24 : decode m_Que_seekable.2.1 24 = .ok (.iload_n 2, 1) := by decide +kernel
theorem d_Que_seekable_25 : decode m_Que_seekable.2.1 25 = .ok (.iaload, 1) := by decide +kernel
theorem d_Que_seekable_26 : decode m_Que_seekable.2.1 26 = .ok (.iconst (-1), 1) := by decide +kernel
theorem d_Que_seekable_27 : decode m_Que_seekable.2.1 27 = .ok (.if_icmp .ne 17, 3) := by decide +kernel
theorem d_Que_seekable_30 : decode m_Que_seekable.2.1 30 = .ok (.aload_n 0, 1) := by decide +kernel
theorem d_Que_seekable_31 : decode m_Que_seekable.2.1 31 = .ok (.getfield 37, 3) := by decide +kernel
theorem d_Que_seekable_34 : decode m_Que_seekable.2.1 34 = .ok (.iload_n 2, 1) := by decide +kernel
theorem d_Que_seekable_35 : decode m_Que_seekable.2.1 35 = .ok (.iaload, 1) := by decide +kernel
theorem d_Que_seekable_36 : decode m_Que_seekable.2.1 36 = .ok (.invokestatic 90, 3) := by decide +kernel
theorem d_Que_seekable_39 : decode m_Que_seekable.2.1 39 = .ok (.ifCond .eq 5, 3) := by decide +kernel
theorem d_Que_seekable_42 : decode m_Que_seekable.2.1 42 = .ok (.iload_n 2, 1) := by decide +kernel
theorem d_Que_seekable_43 : decode m_Que_seekable.2.1 43 = .ok (.ireturn, 1) := by decide +kernel
theorem d_Que_seekable_44 : decode m_Que_seekable.2.1 44 = .ok (.iinc 2 1, 3) := by decide +kernel
theorem d_Que_seekable_47 : decode m_Que_seekable.2.1 47 = .ok (.goto (-45), 3) := by decide +kernel
theorem d_Que_seekable_50 : decode m_Que_seekable.2.1 50 = .ok (.iconst (-1), 1) := by decide +kernel
theorem d_Que_seekable_51 : decode m_Que_seekable.2.1 51 = .ok (.ireturn, 1) := by decide +kernel
theorem d_Que_isFromBelow_0 : decode m_Que_isFromBelow.2.1 0 = .ok (.iload_n 0, 1) := by decide +kernel
theorem d_Que_isFromBelow_1 : decode m_Que_isFromBelow.2.1 1 = .ok (.ifCond .eq 13, 3) := by decide +kernel
theorem d_Que_isFromBelow_4 : decode m_Que_isFromBelow.2.1 4 = .ok (.iload_n 0, 1) := by decide +kernel
theorem d_Que_isFromBelow_5 : decode m_Que_isFromBelow.2.1 5 = .ok (.iconst 4, 1) := by decide +kernel
theorem d_Que_isFromBelow_6 : decode m_Que_isFromBelow.2.1 6 = .ok (.if_icmp .eq 8, 3) := by decide +kernel
theorem d_Que_isFromBelow_9 : decode m_Que_isFromBelow.2.1 9 = .ok (.iload_n 0, 1) := by decide +kernel
theorem d_Que_isFromBelow_10 : decode m_Que_isFromBelow.2.1 10 = .ok (.iconst 5, 1) := by decide +kernel
theorem d_Que_isFromBelow_11 : decode m_Que_isFromBelow.2.1 11 = .ok (.if_icmp .ne 7, 3) := by decide +kernel
theorem d_Que_isFromBelow_14 : decode m_Que_isFromBelow.2.1 14 = .ok (.iconst 1, 1) := by decide +kernel
theorem d_Que_isFromBelow_15 : decode m_Que_isFromBelow.2.1 15 = .ok (.goto 4, 3) := by decide +kernel
theorem d_Que_isFromBelow_18 : decode m_Que_isFromBelow.2.1 18 = .ok (.iconst 0, 1) := by decide +kernel
theorem d_Que_isFromBelow_19 : decode m_Que_isFromBelow.2.1 19 = .ok (.ireturn, 1) := by decide +kernel
theorem d_Que_writeConditions_0 : decode m_Que_writeConditions.2.1 0 = .ok (.iconst 0, 1) := by decide +kernel
theorem d_Que_writeConditions_1 : decode m_Que_writeConditions.2.1 1 = .ok (.istore 4, 2) := by decide +kernel
theorem d_Que_writeConditions_3 : decode m_Que_writeConditions.2.1 3 = .ok (.iload 4, 2) := by decide +kernel
theorem d_Que_writeConditions_5 : decode m_Que_writeConditions.2.1 5 = .ok (.aload_n 0, 1) := by decide +kernel
theorem d_Que_writeConditions_6 : decode m_Que_writeConditions.2.1 6 = .ok (.getfield 19, 3) := by decide +kernel
theorem d_Que_writeConditions_9 : decode m_Que_writeConditions.2.1 9 = .ok (.if_icmp .ge 28, 3) := by decide +kernel
theorem d_Que_writeConditions_12 : decode m_Que_writeConditions.2.1 12 = .ok (.aload_n 0, 1) := by decide +kernel
theorem d_Que_writeConditions_13 : decode m_Que_writeConditions.2.1 13 = .ok (.getfield 31, 3) := by decide +kernel
theorem d_Que_writeConditions_16 : decode m_Que_writeConditions.2.1 16 = .ok (.iload 4, 2) := by decide +kernel
theorem d_Que_writeConditions_18 : decode m_Que_writeConditions.2.1 18 = .ok (.iaload, 1) := by decide +kernel
theorem d_Que_writeConditions_19 : decode m_Que_writeConditions.2.1 19 = .ok (.iload_n 2, 1) := by decide +kernel
theorem d_Que_writeConditions_20 : decode m_Que_writeConditions.2.1 20 = .ok (.if_icmp .ne 11, 3) := by decide +kernel
theorem d_Que_writeConditions_23 : decode m_Que_writeConditions.2.1 23 = .ok (.aload_n 0, 1) := by decide +kernel
theorem d_Que_writeConditions_24 : decode m_Que_writeConditions.2.1 24 = .ok (.aload_n 1, 1) := by decide +kernel
theorem d_Que_writeConditions_25 : decode m_Que_writeConditions.2.1 25 = .ok (.iload 4, 2) := by decide +kernel
theorem d_Que_writeConditions_27 : decode m_Que_writeConditions.2.1 27 = .ok (.iload_n 3, 1) := by decide +kernel
theorem d_Que_writeConditions_28 : decode m_Que_writeConditions.2.1 28 = .ok (.invokevirtual 94, 3) := by decide +kernel
theorem d_Que_writeConditions_31 : decode m_Que_writeConditions.2.1 31 = .ok (.iinc 4 1, 3) := by decide +kernel
theorem d_Que_writeConditions_34 : decode m_Que_writeConditions.2.1 34 = .ok (.goto (-31), 3) := by decide +kernel
theorem d_Que_writeConditions_37 : decode m_Que_writeConditions.2.1 37 = .ok (.return_, 1) := by decide +kernel
theorem d_Que_writeCondition_0 : decode m_Que_writeCondition.2.1 0 = .ok (.aload_n 0, 1) := by decide +kernel
theorem d_Que_writeCondition_1 : decode m_Que_writeCondition.2.1 1 = .ok (.aload_n 1, 1) := by decide +kernel
theorem d_Que_writeCondition_2 : decode m_Que_writeCondition.2.1 2 = .ok (.aload_n 0, 1) := by decide +kernel
theorem d_Que_writeCondition_3 : decode m_Que_writeCondition.2.1 3 = .ok (.getfield 31, 3) := by decide +kernel
theorem d_Que_writeCondition_6 : decode m_Que_writeCondition.2.1 6 = .ok (.iload_n 2, 1) := by decide +kernel
theorem d_Que_writeCondition_7 : decode m_Que_writeCondition.2.1 7 = .ok (.iaload, 1) := by decide +kernel
theorem d_Que_writeCondition_8 : decode m_Que_writeCondition.2.1 8 = .ok (.aload_n 0, 1) := by decide +kernel
theorem d_Que_writeCondition_9 : decode m_Que_writeCondition.2.1 9 = .ok (.getfield 34, 3) := by decide +kernel
theorem d_Que_writeCondition_12 : decode m_Que_writeCondition.2.1 12 = .ok (.iload_n 2, 1) := by decide +kernel
theorem d_Que_writeCondition_13 : decode m_Que_writeCondition.2.1 13 = .ok (.iaload, 1) := by decide +kernel
theorem d_Que_writeCondition_14 : decode m_Que_writeCondition.2.1 14 = .ok (.iconst 0, 1) := by decide +kernel
theorem d_Que_writeCondition_15 : decode m_Que_writeCondition.2.1 15 = .ok (.invokevirtual 97, 3) := by decide +kernel
theorem d_Que_writeCondition_18 : decode m_Que_writeCondition.2.1 18 = .ok (.bipush 9, 2) := by decide +kernel
theorem d_Que_writeCondition_20 : decode m_Que_writeCondition.2.1 20 = .ok (.aload_n 0, 1) := by decide +kernel
theorem d_Que_writeCondition_21 : decode m_Que_writeCondition.2.1 21 = .ok (.getfield 37, 3) := by decide +kernel
theorem d_Que_writeCondition_24 : decode m_Que_writeCondition.2.1 24 = .ok (.iload_n 2, 1) := by decide +kernel
theorem d_Que_writeCondition_25 : decode m_Que_writeCondition.2.1 25 = .ok (.iaload, 1) := by decide +kernel
theorem d_Que_writeCondition_26 : decode m_Que_writeCondition.2.1 26 = .ok (.iadd, 1) := by decide +kernel
theorem d_Que_writeCondition_27 : decode m_Que_writeCondition.2.1 27 = .ok (.istore 4, 2) := by decide +kernel
theorem d_Que_writeCondition_29 : decode m_Que_writeCondition.2.1 29 = .ok (.aload_n 0, 1) := by decide +kernel
theorem d_Que_writeCondition_30 : decode m_Que_writeCondition.2.1 30 = .ok (.getfield 37, 3) := by decide +kernel
theorem d_Que_writeCondition_33 : decode m_Que_writeCondition.2.1 33 = .ok (.iload_n 2, 1) := by decide +kernel
theorem d_Que_writeCondition_34 : decode m_Que_writeCondition.2.1 34 = .ok (.iaload, 1) := by decide +kernel
theorem d_Que_writeCondition_35 : decode m_Que_writeCondition.2.1 35 = .ok (.bipush 6, 2) := by decide +kernel
theorem d_Que_writeCondition_37 : decode m_Que_writeCondition.2.1 37 = .ok (.if_icmp .ge 29, 3) := by decide +kernel
theorem d_Que_writeCondition_40 : decode m_Que_writeCondition.2.1 40 = .ok (.aload_n 1, 1) := by decide +kernel
theorem d_Que_writeCondition_41 : decode m_Que_writeCondition.2.1 41 = .ok (.bipush 6, 2) := by decide +kernel
theorem d_Que_writeCondition_43 : decode m_Que_writeCondition.2.1 43 = .ok (.aload_n 0, 1) := by decide +kernel
theorem d_Que_writeCondition_44 : decode m_Que_writeCondition.2.1 44 = .ok (.getfield 40, 3) := by decide +kernel
theorem d_Que_writeCondition_47 : decode m_Que_writeCondition.2.1 47 = .ok (.iload_n 2, 1) := by decide +kernel
theorem d_Que_writeCondition_48 : decode m_Que_writeCondition.2.1 48 = .ok (.iaload, 1) := by decide +kernel
theorem d_Que_writeCondition_49 : decode m_Que_writeCondition.2.1 49 = .ok (.iconst 1, 1) := by decide +kernel
theorem d_Que_writeCondition_50 : decode m_Que_writeCondition.2.1 50 = .ok (.iconst 0, 1) := by decide +kernel
theorem d_Que_writeCondition_51 : decode m_Que_writeCondition.2.1 51 = .ok (.invokevirtual 64, 3) := by decide +kernel
theorem d_Que_writeCondition_54 : decode m_Que_writeCondition.2.1 54 = .ok (.aload_n 0, 1) := by decide +kernel
theorem d_Que_writeCondition_55 : decode m_Que_writeCondition.2.1 55 = .ok (.aload_n 1, 1) := by decide +kernel
theorem d_Que_writeCondition_56 : decode m_Que_writeCondition.2.1 56 = .ok (.iload 4, 2) := by decide +kernel
theorem d_Que_writeCondition_58 : decode m_Que_writeCondition.2.1 58 = .ok (.iconst 1, 1) := by decide +kernel
theorem d_Que_writeCondition_59 : decode m_Que_writeCondition.2.1 59 = .ok (.iload_n 3, 1) := by decide +kernel
theorem d_Que_writeCondition_60 : decode m_Que_writeCondition.2.1 60 = .ok (.invokevirtual 101, 3) := by decide +kernel
theorem d_Que_writeCondition_63 : decode m_Que_writeCondition.2.1 63 = .ok (.goto 12, 3) := by decide +kernel
theorem d_Que_writeCondition_66 : decode m_Que_writeCondition.2.1 66 = .ok (.aload_n 0, 1) := by decide +kernel
theorem d_Que_writeCondition_67 : decode m_Que_writeCondition.2.1 67 = .ok (.aload_n 1, 1) := by decide +kernel
theorem d_Que_writeCondition_68 : decode m_Que_writeCondition.2.1 68 = .ok (.iload 4, 2) := by decide +kernel
theorem d_Que_writeCondition_70 : decode m_Que_writeCondition.2.1 70 = .ok (.iconst 0, 1) := by decide +kernel
theorem d_Que_writeCondition_71 : decode m_Que_writeCondition.2.1 71 = .ok (.iload_n 3, 1) := by decide +kernel
theorem d_Que_writeCondition_72 : decode m_Que_writeCondition.2.1 72 = .ok (.invokevirtual 101, 3) := by decide +kernel
theorem d_Que_writeCondition_75 : decode m_Que_writeCondition.2.1 75 = .ok (.return_, 1) := by decide +kernel
theorem d_Que_writeColumn_0 : decode m_Que_writeColumn.2.1 0 = .ok (.iload_n 3, 1) := by decide +kernel
theorem d_Que_writeColumn_1 : decode m_Que_writeColumn.2.1 1 = .ok (.iconst (-1), 1) := by decide +kernel
theorem d_Que_writeColumn_2 : decode m_Que_writeColumn.2.1 2 = .ok (.if_icmp .ne 15, 3) := by decide +kernel
theorem d_Que_writeColumn_5 : decode m_Que_writeColumn.2.1 5 = .ok (.aload_n 1, 1) := by decide +kernel
theorem d_Que_writeColumn_6 : decode m_Que_writeColumn.2.1 6 = .ok (.iconst 5, 1) := by decide +kernel
theorem d_Que_writeColumn_7 : decode m_Que_writeColumn.2.1 7 = .ok (.iload_n 2, 1) := by decide +kernel
theorem d_Que_writeColumn_8 : decode m_Que_writeColumn.2.1 8 = .ok (.iload 4, 2) := by decide +kernel
theorem d_Que_writeColumn_10 : decode m_Que_writeColumn.2.1 10 = .ok (.iconst 0, 1) := by decide +kernel
theorem d_Que_writeColumn_11 : decode m_Que_writeColumn.2.1 11 = .ok (.invokevirtual 64, 3) := by decide +kernel
theorem d_Que_writeColumn_14 : decode m_Que_writeColumn.2.1 14 = .ok (.goto 12, 3) := by decide +kernel
theorem d_Que_writeColumn_17 : decode m_Que_writeColumn.2.1 17 = .ok (.aload_n 1, 1) := by decide +kernel
theorem d_Que_writeColumn_18 : decode m_Que_writeColumn.2.1 18 = .ok (.iconst 4, 1) := by decide +kernel
theorem d_Que_writeColumn_19 : decode m_Que_writeColumn.2.1 19 = .ok (.iload_n 2, 1) := by decide +kernel
theorem d_Que_writeColumn_20 : decode m_Que_writeColumn.2.1 20 = .ok (.iload_n 3, 1) := by decide +kernel
theorem d_Que_writeColumn_21 : decode m_Que_writeColumn.2.1 21 = .ok (.iload 4, 2) := by decide +kernel
theorem d_Que_writeColumn_23 : decode m_Que_writeColumn.2.1 23 = .ok (.invokevirtual 64, 3) := by decide +kernel
theorem d_Que_writeColumn_26 : decode m_Que_writeColumn.2.1 26 = .ok (.return_, 1) := by decide +kernel
theorem d_Que_writeTest_0 : decode m_Que_writeTest.2.1 0 = .ok (.aload_n 1, 1) := by decide +kernel
theorem d_Que_writeTest_1 : decode m_Que_writeTest.2.1 1 = .ok (.iload_n 2, 1) := by decide +kernel
theorem d_Que_writeTest_2 : decode m_Que_writeTest.2.1 2 = .ok (.iconst 0, 1) := by decide +kernel
theorem d_Que_writeTest_3 : decode m_Que_writeTest.2.1 3 = .ok (.aload_n 1, 1) := by decide +kernel
theorem d_Que_writeTest_4 : decode m_Que_writeTest.2.1 4 = .ok (.getfield 57, 3) := by decide +kernel
theorem d_Que_writeTest_7 : decode m_Que_writeTest.2.1 7 = .ok (.iconst 2, 1) := by decide +kernel
theorem d_Que_writeTest_8 : decode m_Que_writeTest.2.1 8 = .ok (.iadd, 1) := by decide +kernel
theorem d_Que_writeTest_9 : decode m_Que_writeTest.2.1 9 = .ok (.iload_n 3, 1) := by decide +kernel
theorem d_Que_writeTest_10 : decode m_Que_writeTest.2.1 10 = .ok (.invokevirtual 64, 3) := by decide +kernel
theorem d_Que_writeTest_13 : decode m_Que_writeTest.2.1 13 = .ok (.aload_n 1, 1) := by decide +kernel
theorem d_Que_writeTest_14 : decode m_Que_writeTest.2.1 14 = .ok (.bipush 19, 2) := by decide +kernel
theorem d_Que_writeTest_16 : decode m_Que_writeTest.2.1 16 = .ok (.iload 4, 2) := by decide +kernel
theorem d_Que_writeTest_18 : decode m_Que_writeTest.2.1 18 = .ok (.iconst 0, 1) := by decide +kernel
theorem d_Que_writeTest_19 : decode m_Que_writeTest.2.1 19 = .ok (.iconst 0, 1) := by decide +kernel
theorem d_Que_writeTest_20 : decode m_Que_writeTest.2.1 20 = .ok (.invokevirtual 64, 3) := by decide +kernel
theorem d_Que_writeTest_23 : decode m_Que_writeTest.2.1 23 = .ok (.return_, 1) := by decide +kernel
theorem d_Que_writeInnerLoop_0 : decode m_Que_writeInnerLoop.2.1 0 = .ok (.iload_n 2, 1) := by decide +kernel
theorem d_Que_writeInnerLoop_1 : decode m_Que_writeInnerLoop.2.1 1 = .ok (.iconst 1, 1) := by decide +kernel
theorem d_Que_writeInnerLoop_2 : decode m_Que_writeInnerLoop.2.1 2 = .ok (.isub, 1) := by decide +kernel
theorem d_Que_writeInnerLoop_3 : decode m_Que_writeInnerLoop.2.1 3 = .ok (.istore_n 3, 1) := by decide +kernel
theorem d_Que_writeInnerLoop_4 : decode m_Que_writeInnerLoop.2.1 4 = .ok (.aload_n 0, 1) := by decide +kernel
theorem d_Que_writeInnerLoop_5 : decode m_Que_writeInnerLoop.2.1 5 = .ok (.aload_n 1, 1) := by decide +kernel
theorem d_Que_writeInnerLoop_6 : decode m_Que_writeInnerLoop.2.1 6 = .ok (.iconst 1, 1) := by decide +kernel
theorem d_Que_writeInnerLoop_7 : decode m_Que_writeInnerLoop.2.1 7 = .ok (.iload_n 2, 1) := by decide +kernel
theorem d_Que_writeInnerLoop_8 : decode m_Que_writeInnerLoop.2.1 8 = .ok (.invokevirtual 68, 3) := by decide +kernel
theorem d_Que_writeInnerLoop_11 : decode m_Que_writeInnerLoop.2.1 11 = .ok (.aload_n 1, 1) := by decide +kernel
theorem d_Que_writeInnerLoop_12 : decode m_Que_writeInnerLoop.2.1 12 = .ok (.getfield 57, 3) := by decide +kernel
theorem d_Que_writeInnerLoop_15 : decode m_Que_writeInnerLoop.2.1 15 = .ok (.istore 4, 2) := by decide +kernel
theorem d_Que_writeInnerLoop_17 : decode m_Que_writeInnerLoop.2.1 17 = .ok (.aload_n 0, 1) := by decide +kernel
theorem d_Que_writeInnerLoop_18 : decode m_Que_writeInnerLoop.2.1 18 = .ok (.aload_n 1, 1) := by decide +kernel
theorem d_Que_writeInnerLoop_19 : decode m_Que_writeInnerLoop.2.1 19 = .ok (.iconst 1, 1) := by decide +kernel
theorem d_Que_writeInnerLoop_20 : decode m_Que_writeInnerLoop.2.1 20 = .ok (.iload_n 3, 1) := by decide +kernel
theorem d_Que_writeInnerLoop_21 : decode m_Que_writeInnerLoop.2.1 21 = .ok (.invokevirtual 72, 3) := by decide +kernel
theorem d_Que_writeInnerLoop_24 : decode m_Que_writeInnerLoop.2.1 24 = .ok (.aload_n 0, 1) := by decide +kernel
theorem d_Que_writeInnerLoop_25 : decode m_Que_writeInnerLoop.2.1 25 = .ok (.getfield 43, 3) := by decide +kernel
theorem d_Que_writeInnerLoop_28 : decode m_Que_writeInnerLoop.2.1 28 = .ok (.ifCond .eq 9, 3) := by decide +kernel
theorem d_Que_writeInnerLoop_31 : decode m_Que_writeInnerLoop.2.1 31 = .ok (.aload_n 0, 1) := by decide +kernel
theorem d_Que_writeInnerLoop_32 : decode m_Que_writeInnerLoop.2.1 32 = .ok (.aload_n 1, 1) := by decide +kernel
theorem d_Que_writeInnerLoop_33 : decode m_Que_writeInnerLoop.2.1 33 = .ok (.iload_n 3, 1) := by decide +kernel
theorem d_Que_writeInnerLoop_34 : decode m_Que_writeInnerLoop.2.1 34 = .ok (.invokevirtual 83, 3) := by decide +kernel
theorem d_Que_writeInnerLoop_37 : decode m_Que_writeInnerLoop.2.1 37 = .ok (.aload_n 0, 1) := by decide +kernel
theorem d_Que_writeInnerLoop_38 : decode m_Que_writeInnerLoop.2.1 38 = .ok (.aload_n 1, 1) := by decide +kernel
theorem d_Que_writeInnerLoop_39 : decode m_Que_writeInnerLoop.2.1 39 = .ok (.invokevirtual 79, 3) := by decide +kernel
theorem d_Que_writeInnerLoop_42 : decode m_Que_writeInnerLoop.2.1 42 = .ok (.aload_n 1, 1) := by decide +kernel
theorem d_Que_writeInnerLoop_43 : decode m_Que_writeInnerLoop.2.1 43 = .ok (.iconst 3, 1) := by decide +kernel
theorem d_Que_writeInnerLoop_44 : decode m_Que_writeInnerLoop.2.1 44 = .ok (.iconst 1, 1) := by decide +kernel
theorem d_Que_writeInnerLoop_45 : decode m_Que_writeInnerLoop.2.1 45 = .ok (.iload 4, 2) := by decide +kernel
theorem d_Que_writeInnerLoop_47 : decode m_Que_writeInnerLoop.2.1 47 = .ok (.iconst 0, 1) := by decide +kernel
theorem d_Que_writeInnerLoop_48 : decode m_Que_writeInnerLoop.2.1 48 = .ok (.invokevirtual 64, 3) := by decide +kernel
theorem d_Que_writeInnerLoop_51 : decode m_Que_writeInnerLoop.2.1 51 = .ok (.return_, 1) := by decide +kernel
theorem d_Que_writeJoin_0 : decode m_Que_writeJoin.2.1 0 = .ok (.aload_n 0, 1) := by decide +kernel
theorem d_Que_writeJoin_1 : decode m_Que_writeJoin.2.1 1 = .ok (.aload_n 1, 1) := by decide +kernel
theorem d_Que_writeJoin_2 : decode m_Que_writeJoin.2.1 2 = .ok (.iconst 0, 1) := by decide +kernel
theorem d_Que_writeJoin_3 : decode m_Que_writeJoin.2.1 3 = .ok (.aload_n 0, 1) := by decide +kernel
theorem d_Que_writeJoin_4 : decode m_Que_writeJoin.2.1 4 = .ok (.getfield 47, 3) := by decide +kernel
theorem d_Que_writeJoin_7 : decode m_Que_writeJoin.2.1 7 = .ok (.iconst 0, 1) := by decide +kernel
theorem d_Que_writeJoin_8 : decode m_Que_writeJoin.2.1 8 = .ok (.invokevirtual 97, 3) := by decide +kernel
theorem d_Que_writeJoin_11 : decode m_Que_writeJoin.2.1 11 = .ok (.aload_n 0, 1) := by decide +kernel
theorem d_Que_writeJoin_12 : decode m_Que_writeJoin.2.1 12 = .ok (.aload_n 1, 1) := by decide +kernel
theorem d_Que_writeJoin_13 : decode m_Que_writeJoin.2.1 13 = .ok (.iconst 1, 1) := by decide +kernel
theorem d_Que_writeJoin_14 : decode m_Que_writeJoin.2.1 14 = .ok (.aload_n 0, 1) := by decide +kernel
theorem d_Que_writeJoin_15 : decode m_Que_writeJoin.2.1 15 = .ok (.getfield 50, 3) := by decide +kernel
theorem d_Que_writeJoin_18 : decode m_Que_writeJoin.2.1 18 = .ok (.iconst 1, 1) := by decide +kernel
theorem d_Que_writeJoin_19 : decode m_Que_writeJoin.2.1 19 = .ok (.invokevirtual 97, 3) := by decide +kernel
theorem d_Que_writeJoin_22 : decode m_Que_writeJoin.2.1 22 = .ok (.aload_n 0, 1) := by decide +kernel
theorem d_Que_writeJoin_23 : decode m_Que_writeJoin.2.1 23 = .ok (.aload_n 1, 1) := by decide +kernel
theorem d_Que_writeJoin_24 : decode m_Que_writeJoin.2.1 24 = .ok (.bipush 9, 2) := by decide +kernel
theorem d_Que_writeJoin_26 : decode m_Que_writeJoin.2.1 26 = .ok (.iconst 1, 1) := by decide +kernel
theorem d_Que_writeJoin_27 : decode m_Que_writeJoin.2.1 27 = .ok (.iload_n 2, 1) := by decide +kernel
theorem d_Que_writeJoin_28 : decode m_Que_writeJoin.2.1 28 = .ok (.invokevirtual 101, 3) := by decide +kernel
theorem d_Que_writeJoin_31 : decode m_Que_writeJoin.2.1 31 = .ok (.return_, 1) := by decide +kernel
theorem d_Que_writeOutputs_0 : decode m_Que_writeOutputs.2.1 0 = .ok (.iconst 0, 1) := by decide +kernel
theorem d_Que_writeOutputs_1 : decode m_Que_writeOutputs.2.1 1 = .ok (.istore_n 2, 1) := by decide +kernel
theorem d_Que_writeOutputs_2 : decode m_Que_writeOutputs.2.1 2 = .ok (.iload_n 2, 1) := by decide +kernel
theorem d_Que_writeOutputs_3 : decode m_Que_writeOutputs.2.1 3 = .ok (.aload_n 0, 1) := by decide +kernel
theorem d_Que_writeOutputs_4 : decode m_Que_writeOutputs.2.1 4 = .ok (.getfield 15, 3) := by decide +kernel
theorem d_Que_writeOutputs_7 : decode m_Que_writeOutputs.2.1 7 = .ok (.if_icmp .ge 29, 3) := by decide +kernel
theorem d_Que_writeOutputs_10 : decode m_Que_writeOutputs.2.1 10 = .ok (.aload_n 0, 1) := by decide +kernel
theorem d_Que_writeOutputs_11 : decode m_Que_writeOutputs.2.1 11 = .ok (.aload_n 1, 1) := by decide +kernel
theorem d_Que_writeOutputs_12 : decode m_Que_writeOutputs.2.1 12 = .ok (.aload_n 0, 1) := by decide +kernel
theorem d_Que_writeOutputs_13 : decode m_Que_writeOutputs.2.1 13 = .ok (.getfield 25, 3) := by decide +kernel
theorem d_Que_writeOutputs_16 : decode m_Que_writeOutputs.2.1 16 = .ok (.iload_n 2, 1) := by decide +kernel
theorem d_Que_writeOutputs_17 : decode m_Que_writeOutputs.2.1 17 = .ok (.iaload, 1) := by decide +kernel
theorem d_Que_writeOutputs_18 : decode m_Que_writeOutputs.2.1 18 = .ok (.aload_n 0, 1) := by decide +kernel
theorem d_Que_writeOutputs_19 : decode m_Que_writeOutputs.2.1 19 = .ok (.getfield 28, 3) := by decide +kernel
theorem d_Que_writeOutputs_22 : decode m_Que_writeOutputs.2.1 22 = .ok (.iload_n 2, 1) := by decide +kernel
theorem d_Que_writeOutputs_23 : decode m_Que_writeOutputs.2.1 23 = .ok (.iaload, 1) := by decide +kernel
theorem d_Que_writeOutputs_24 : decode m_Que_writeOutputs.2.1 24 = .ok (.iconst 2, 1) := by decide +kernel
theorem d_Que_writeOutputs_25 : decode m_Que_writeOutputs.2.1 25 = .ok (.iload_n 2, 1) := by decide +kernel
theorem d_Que_writeOutputs_26 : decode m_Que_writeOutputs.2.1 26 = .ok (.iadd, 1) := by decide +kernel
theorem d_Que_writeOutputs_27 : decode m_Que_writeOutputs.2.1 27 = .ok (.invokevirtual 97, 3) := by decide +kernel
theorem d_Que_writeOutputs_30 : decode m_Que_writeOutputs.2.1 30 = .ok (.iinc 2 1, 3) := by decide +kernel
theorem d_Que_writeOutputs_33 : decode m_Que_writeOutputs.2.1 33 = .ok (.goto (-31), 3) := by decide +kernel
theorem d_Que_writeOutputs_36 : decode m_Que_writeOutputs.2.1 36 = .ok (.aload_n 1, 1) := by decide +kernel
theorem d_Que_writeOutputs_37 : decode m_Que_writeOutputs.2.1 37 = .ok (.bipush 18, 2) := by decide +kernel
theorem d_Que_writeOutputs_39 : decode m_Que_writeOutputs.2.1 39 = .ok (.iconst 2, 1) := by decide +kernel
theorem d_Que_writeOutputs_40 : decode m_Que_writeOutputs.2.1 40 = .ok (.aload_n 0, 1) := by decide +kernel
theorem d_Que_writeOutputs_41 : decode m_Que_writeOutputs.2.1 41 = .ok (.getfield 15, 3) := by decide +kernel
theorem d_Que_writeOutputs_44 : decode m_Que_writeOutputs.2.1 44 = .ok (.iconst 0, 1) := by decide +kernel
theorem d_Que_writeOutputs_45 : decode m_Que_writeOutputs.2.1 45 = .ok (.invokevirtual 64, 3) := by decide +kernel
theorem d_Que_writeOutputs_48 : decode m_Que_writeOutputs.2.1 48 = .ok (.return_, 1) := by decide +kernel
