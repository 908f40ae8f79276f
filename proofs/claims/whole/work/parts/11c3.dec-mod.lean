theorem d_Mod_output_14 : decode m_Mod_output.2.1 14 = .ok (.iload_n 1, 1) := by decide +kernel
theorem d_Mod_output_15 : decode m_Mod_output.2.1 15 = .ok (.iload_n 2, 1) := by decide +kernel
theorem d_Mod_output_16 : decode m_Mod_output.2.1 16 = .ok (.invokevirtual 184, 3) := by decide +kernel
theorem d_Mod_output_19 : decode m_Mod_output.2.1 19 = .ok (.ifCond .ne 5, 3) := by decide +kernel
theorem d_Mod_output_22 : decode m_Mod_output.2.1 22 = .ok (.iconst 0, 1) := by decide +kernel
theorem d_Mod_output_23 : decode m_Mod_output.2.1 23 = .ok (.ireturn, 1) := by decide +kernel
theorem d_Mod_output_24 : decode m_Mod_output.2.1 24 = .ok (.aload_n 0, 1) := by decide +kernel
theorem d_Mod_output_25 : decode m_Mod_output.2.1 25 = .ok (.getfield 67, 3) := by decide +kernel
theorem d_Mod_output_28 : decode m_Mod_output.2.1 28 = .ok (.iconst 2, 1) := by decide +kernel
theorem d_Mod_output_29 : decode m_Mod_output.2.1 29 = .ok (.aload_n 0, 1) := by decide +kernel
theorem d_Mod_output_30 : decode m_Mod_output.2.1 30 = .ok (.getfield 171, 3) := by decide +kernel
theorem d_Mod_output_33 : decode m_Mod_output.2.1 33 = .ok (.imul, 1) := by decide +kernel
theorem d_Mod_output_34 : decode m_Mod_output.2.1 34 = .ok (.iload_n 1, 1) := by decide +kernel
theorem d_Mod_output_35 : decode m_Mod_output.2.1 35 = .ok (.iastore, 1) := by decide +kernel
theorem d_Mod_output_36 : decode m_Mod_output.2.1 36 = .ok (.aload_n 0, 1) := by decide +kernel
theorem d_Mod_output_37 : decode m_Mod_output.2.1 37 = .ok (.getfield 67, 3) := by decide +kernel
theorem d_Mod_output_40 : decode m_Mod_output.2.1 40 = .ok (.iconst 2, 1) := by decide +kernel
theorem d_Mod_output_41 : decode m_Mod_output.2.1 41 = .ok (.aload_n 0, 1) := by decide +kernel
theorem d_Mod_output_42 : decode m_Mod_output.2.1 42 = .ok (.getfield 171, 3) := by decide +kernel
theorem d_Mod_output_45 : decode m_Mod_output.2.1 45 = .ok (.imul, 1) := by decide +kernel
theorem d_Mod_output_46 : decode m_Mod_output.2.1 46 = .ok (.iconst 1, 1) := by decide +kernel
theorem d_Mod_output_47 : decode m_Mod_output.2.1 47 = .ok (.iadd, 1) := by decide +kernel
theorem d_Mod_output_48 : decode m_Mod_output.2.1 48 = .ok (.iload_n 2, 1) := by decide +kernel
theorem d_Mod_output_49 : decode m_Mod_output.2.1 49 = .ok (.iastore, 1) := by decide +kernel
theorem d_Mod_output_50 : decode m_Mod_output.2.1 50 = .ok (.aload_n 0, 1) := by decide +kernel
theorem d_Mod_output_51 : decode m_Mod_output.2.1 51 = .ok (.dup, 1) := by decide +kernel
theorem d_Mod_output_52 : decode m_Mod_output.2.1 52 = .ok (.getfield 171, 3) := by decide +kernel
theorem d_Mod_output_55 : decode m_Mod_output.2.1 55 = .ok (.iconst 1, 1) := by decide +kernel
theorem d_Mod_output_56 : decode m_Mod_output.2.1 56 = .ok (.iadd, 1) := by decide +kernel
theorem d_Mod_output_57 : decode m_Mod_output.2.1 57 = .ok (.putfield 171, 3) := by decide +kernel
theorem d_Mod_output_60 : decode m_Mod_output.2.1 60 = .ok (.iconst 1, 1) := by decide +kernel
theorem d_Mod_output_61 : decode m_Mod_output.2.1 61 = .ok (.ireturn, 1) := by decide +kernel
theorem d_Mod_isColumn_0 : decode m_Mod_isColumn.2.1 0 = .ok (.aload_n 0, 1) := by decide +kernel
theorem d_Mod_isColumn_1 : decode m_Mod_isColumn.2.1 1 = .ok (.iload_n 1, 1) := by decide +kernel
theorem d_Mod_isColumn_2 : decode m_Mod_isColumn.2.1 2 = .ok (.invokevirtual 181, 3) := by decide +kernel
theorem d_Mod_isColumn_5 : decode m_Mod_isColumn.2.1 5 = .ok (.istore_n 3, 1) := by decide +kernel
theorem d_Mod_isColumn_6 : decode m_Mod_isColumn.2.1 6 = .ok (.iload_n 3, 1) := by decide +kernel
theorem d_Mod_isColumn_7 : decode m_Mod_isColumn.2.1 7 = .ok (.ifCond .lt 30, 3) := by decide +kernel
theorem d_Mod_isColumn_10 : decode m_Mod_isColumn.2.1 10 = .ok (.iload_n 2, 1) := by decide +kernel
theorem d_Mod_isColumn_11 : decode m_Mod_isColumn.2.1 11 = .ok (.iconst (-1), 1) := by decide +kernel
theorem d_Mod_isColumn_12 : decode m_Mod_isColumn.2.1 12 = .ok (.if_icmp .lt 25, 3) := by decide +kernel
theorem d_Mod_isColumn_15 : decode m_Mod_isColumn.2.1 15 = .ok (.iload_n 2, 1) := by decide +kernel
theorem d_Mod_isColumn_16 : decode m_Mod_isColumn.2.1 16 = .ok (.aload_n 0, 1) := by decide +kernel
theorem d_Mod_isColumn_17 : decode m_Mod_isColumn.2.1 17 = .ok (.getfield 7, 3) := by decide +kernel
theorem d_Mod_isColumn_20 : decode m_Mod_isColumn.2.1 20 = .ok (.iload_n 3, 1) := by decide +kernel
theorem d_Mod_isColumn_21 : decode m_Mod_isColumn.2.1 21 = .ok (.ifCond .ge 7, 3) := by decide +kernel
theorem d_Mod_isColumn_24 : decode m_Mod_isColumn.2.1 24 = .ok (.iconst 0, 1) := by decide +kernel
theorem d_Mod_isColumn_25 : decode m_Mod_isColumn.2.1 25 = .ok (.goto 4, 3) := by decide +kernel
theorem d_Mod_isColumn_28 : decode m_Mod_isColumn.2.1 28 = .ok (.iload_n 3, 1) := by decide +kernel
theorem d_Mod_isColumn_29 : decode m_Mod_isColumn.2.1 29 = .ok (.iaload, 1) := by decide +kernel
theorem d_Mod_isColumn_30 : decode m_Mod_isColumn.2.1 30 = .ok (.if_icmp .ge 7, 3) := by decide +kernel
theorem d_Mod_isColumn_33 : decode m_Mod_isColumn.2.1 33 = .ok (.iconst 1, 1) := by decide +kernel
theorem d_Mod_isColumn_34 : decode m_Mod_isColumn.2.1 34 = .ok (.goto 4, 3) := by decide +kernel
theorem d_Mod_isColumn_37 : decode m_Mod_isColumn.2.1 37 = .ok (.iconst 0, 1) := by decide +kernel
theorem d_Mod_isColumn_38 : decode m_Mod_isColumn.2.1 38 = .ok (.ireturn, 1) := by decide +kernel
theorem d_Mod_tableOf_0 : decode m_Mod_tableOf.2.1 0 = .ok (.iload_n 1, 1) := by decide +kernel
theorem d_Mod_tableOf_1 : decode m_Mod_tableOf.2.1 1 = .ok (.ifCond .ne 10, 3) := by decide +kernel
theorem d_Mod_tableOf_4 : decode m_Mod_tableOf.2.1 4 = .ok (.aload_n 0, 1) := by decide +kernel
theorem d_Mod_tableOf_5 : decode m_Mod_tableOf.2.1 5 = .ok (.getfield 60, 3) := by decide +kernel
theorem d_Mod_tableOf_8 : decode m_Mod_tableOf.2.1 8 = .ok (.goto 16, 3) := by decide +kernel
theorem d_Mod_tableOf_11 : decode m_Mod_tableOf.2.1 11 = .ok (.iload_n 1, 1) := by decide +kernel
theorem d_Mod_tableOf_12 : decode m_Mod_tableOf.2.1 12 = .ok (.iconst 1, 1) := by decide +kernel
theorem d_Mod_tableOf_13 : decode m_Mod_tableOf.2.1 13 = .ok (.if_icmp .ne 10, 3) := by decide +kernel
theorem d_Mod_tableOf_16 : decode m_Mod_tableOf.2.1 16 = .ok (.aload_n 0, 1) := by decide +kernel
theorem d_Mod_tableOf_17 : decode m_Mod_tableOf.2.1 17 = .ok (.getfield 64, 3) := by decide +kernel
theorem d_Mod_tableOf_20 : decode m_Mod_tableOf.2.1 20 = .ok (.goto 4, 3) := by decide +kernel
theorem d_Mod_tableOf_23 : decode m_Mod_tableOf.2.1 23 = .ok (.iconst (-1), 1) := by decide +kernel
theorem d_Mod_tableOf_24 : decode m_Mod_tableOf.2.1 24 = .ok (.ireturn, 1) := by decide +kernel
theorem d_Mod_condition_0 : decode m_Mod_condition.2.1 0 = .ok (.aload_n 0, 1) := by decide +kernel
theorem d_Mod_condition_1 : decode m_Mod_condition.2.1 1 = .ok (.iconst 0, 1) := by decide +kernel
theorem d_Mod_condition_2 : decode m_Mod_condition.2.1 2 = .ok (.putfield 73, 3) := by decide +kernel
theorem d_Mod_condition_5 : decode m_Mod_condition.2.1 5 = .ok (.aload_n 0, 1) := by decide +kernel
theorem d_Mod_condition_6 : decode m_Mod_condition.2.1 6 = .ok (.getfield 174, 3) := by decide +kernel
theorem d_Mod_condition_9 : decode m_Mod_condition.2.1 9 = .ok (.iconst 4, 1) := by decide +kernel
theorem d_Mod_condition_10 : decode m_Mod_condition.2.1 10 = .ok (.if_icmp .eq 22, 3) := by decide +kernel
theorem d_Mod_condition_13 : decode m_Mod_condition.2.1 13 = .ok (.aload_n 0, 1) := by decide +kernel
theorem d_Mod_condition_14 : decode m_Mod_condition.2.1 14 = .ok (.iload_n 1, 1) := by decide +kernel
theorem d_Mod_condition_15 : decode m_Mod_condition.2.1 15 = .ok (.iload_n 2, 1) := by decide +kernel
theorem d_Mod_condition_16 : decode m_Mod_condition.2.1 16 = .ok (.invokevirtual 184, 3) := by decide +kernel
theorem d_Mod_condition_19 : decode m_Mod_condition.2.1 19 = .ok (.ifCond .eq 13, 3) := by decide +kernel
theorem d_Mod_condition_22 : decode m_Mod_condition.2.1 22 = .ok (.iload_n 3, 1) := by decide +kernel
theorem d_Mod_condition_23 : decode m_Mod_condition.2.1 23 = .ok (.ifCond .lt 9, 3) := by decide +kernel
theorem d_Mod_condition_26 : decode m_Mod_condition.2.1 26 = .ok (.iload_n 3, 1) := by decide +kernel
theorem d_Mod_condition_27 : decode m_Mod_condition.2.1 27 = .ok (.bipush 7, 2) := by decide +kernel
theorem d_Mod_condition_29 : decode m_Mod_condition.2.1 29 = .ok (.if_icmp .le 5, 3) := by decide +kernel
theorem d_Mod_condition_32 : decode m_Mod_condition.2.1 32 = .ok (.iconst 0, 1) := by decide +kernel
theorem d_Mod_condition_33 : decode m_Mod_condition.2.1 33 = .ok (.ireturn, 1) := by decide +kernel
theorem d_Mod_condition_34 : decode m_Mod_condition.2.1 34 = .ok (.iconst 4, 1) := by decide +kernel
theorem d_Mod_condition_35 : decode m_Mod_condition.2.1 35 = .ok (.aload_n 0, 1) := by decide +kernel
theorem d_Mod_condition_36 : decode m_Mod_condition.2.1 36 = .ok (.getfield 174, 3) := by decide +kernel
theorem d_Mod_condition_39 : decode m_Mod_condition.2.1 39 = .ok (.imul, 1) := by decide +kernel
theorem d_Mod_condition_40 : decode m_Mod_condition.2.1 40 = .ok (.istore 5, 2) := by decide +kernel
theorem d_Mod_condition_42 : decode m_Mod_condition.2.1 42 = .ok (.aload_n 0, 1) := by decide +kernel
theorem d_Mod_condition_43 : decode m_Mod_condition.2.1 43 = .ok (.getfield 70, 3) := by decide +kernel
theorem d_Mod_condition_46 : decode m_Mod_condition.2.1 46 = .ok (.iload 5, 2) := by decide +kernel
theorem d_Mod_condition_48 : decode m_Mod_condition.2.1 48 = .ok (.iload_n 1, 1) := by decide +kernel
theorem d_Mod_condition_49 : decode m_Mod_condition.2.1 49 = .ok (.iastore, 1) := by decide +kernel
theorem d_Mod_condition_50 : decode m_Mod_condition.2.1 50 = .ok (.aload_n 0, 1) := by decide +kernel
theorem d_Mod_condition_51 : decode m_Mod_condition.2.1 51 = .ok (.getfield 70, 3) := by decide +kernel
theorem d_Mod_condition_54 : decode m_Mod_condition.2.1 54 = .ok (.iload 5, 2) := by decide +kernel
theorem d_Mod_condition_56 : decode m_Mod_condition.2.1 56 = .ok (.iconst 1, 1) := by decide +kernel
theorem d_Mod_condition_57 : decode m_Mod_condition.2.1 57 = .ok (.iadd, 1) := by decide +kernel
theorem d_Mod_condition_58 : decode m_Mod_condition.2.1 58 = .ok (.iload_n 2, 1) := by decide +kernel
theorem d_Mod_condition_59 : decode m_Mod_condition.2.1 59 = .ok (.iastore, 1) := by decide +kernel
theorem d_Mod_condition_60 : decode m_Mod_condition.2.1 60 = .ok (.aload_n 0, 1) := by decide +kernel
theorem d_Mod_condition_61 : decode m_Mod_condition.2.1 61 = .ok (.getfield 70, 3) := by decide +kernel
theorem d_Mod_condition_64 : decode m_Mod_condition.2.1 64 = .ok (.iload 5, 2) := by decide +kernel
theorem d_Mod_condition_66 : decode m_Mod_condition.2.1 66 = .ok (.iconst 2, 1) := by decide +kernel
theorem d_Mod_condition_67 : decode m_Mod_condition.2.1 67 = .ok (.iadd, 1) := by decide +kernel
theorem d_Mod_condition_68 : decode m_Mod_condition.2.1 68 = .ok (.iload_n 3, 1) := by decide +kernel
theorem d_Mod_condition_69 : decode m_Mod_condition.2.1 69 = .ok (.iastore, 1) := by decide +kernel
theorem d_Mod_condition_70 : decode m_Mod_condition.2.1 70 = .ok (.aload_n 0, 1) := by decide +kernel
theorem d_Mod_condition_71 : decode m_Mod_condition.2.1 71 = .ok (.getfield 70, 3) := by decide +kernel
theorem d_Mod_condition_74 : decode m_Mod_condition.2.1 74 = .ok (.iload 5, 2) := by decide +kernel
theorem d_Mod_condition_76 : decode m_Mod_condition.2.1 76 = .ok (.iconst 3, 1) := by decide +kernel
theorem d_Mod_condition_77 : decode m_Mod_condition.2.1 77 = .ok (.iadd, 1) := by decide +kernel
theorem d_Mod_condition_78 : decode m_Mod_condition.2.1 78 = .ok (.iload 4, 2) := by decide +kernel
theorem d_Mod_condition_80 : decode m_Mod_condition.2.1 80 = .ok (.iastore, 1) := by decide +kernel
theorem d_Mod_condition_81 : decode m_Mod_condition.2.1 81 = .ok (.aload_n 0, 1) := by decide +kernel
theorem d_Mod_condition_82 : decode m_Mod_condition.2.1 82 = .ok (.dup, 1) := by decide +kernel
theorem d_Mod_condition_83 : decode m_Mod_condition.2.1 83 = .ok (.getfield 174, 3) := by decide +kernel
theorem d_Mod_condition_86 : decode m_Mod_condition.2.1 86 = .ok (.iconst 1, 1) := by decide +kernel
theorem d_Mod_condition_87 : decode m_Mod_condition.2.1 87 = .ok (.iadd, 1) := by decide +kernel
theorem d_Mod_condition_88 : decode m_Mod_condition.2.1 88 = .ok (.putfield 174, 3) := by decide +kernel
theorem d_Mod_condition_91 : decode m_Mod_condition.2.1 91 = .ok (.iconst 1, 1) := by decide +kernel
theorem d_Mod_condition_92 : decode m_Mod_condition.2.1 92 = .ok (.ireturn, 1) := by decide +kernel
theorem d_Mod_join_0 : decode m_Mod_join.2.1 0 = .ok (.aload_n 0, 1) := by decide +kernel
theorem d_Mod_join_1 : decode m_Mod_join.2.1 1 = .ok (.iconst 0, 1) := by decide +kernel
theorem d_Mod_join_2 : decode m_Mod_join.2.1 2 = .ok (.putfield 73, 3) := by decide +kernel
theorem d_Mod_join_5 : decode m_Mod_join.2.1 5 = .ok (.aload_n 0, 1) := by decide +kernel
theorem d_Mod_join_6 : decode m_Mod_join.2.1 6 = .ok (.getfield 64, 3) := by decide +kernel
theorem d_Mod_join_9 : decode m_Mod_join.2.1 9 = .ok (.ifCond .lt 21, 3) := by decide +kernel
theorem d_Mod_join_12 : decode m_Mod_join.2.1 12 = .ok (.aload_n 0, 1) := by decide +kernel
theorem d_Mod_join_13 : decode m_Mod_join.2.1 13 = .ok (.iconst 0, 1) := by decide +kernel
theorem d_Mod_join_14 : decode m_Mod_join.2.1 14 = .ok (.iload_n 1, 1) := by decide +kernel
theorem d_Mod_join_15 : decode m_Mod_join.2.1 15 = .ok (.invokevirtual 184, 3) := by decide +kernel
theorem d_Mod_join_18 : decode m_Mod_join.2.1 18 = .ok (.ifCond .eq 12, 3) := by decide +kernel
theorem d_Mod_join_21 : decode m_Mod_join.2.1 21 = .ok (.aload_n 0, 1) := by decide +kernel
theorem d_Mod_join_22 : decode m_Mod_join.2.1 22 = .ok (.iconst 1, 1) := by decide +kernel
theorem d_Mod_join_23 : decode m_Mod_join.2.1 23 = .ok (.iload_n 2, 1) := by decide +kernel
theorem d_Mod_join_24 : decode m_Mod_join.2.1 24 = .ok (.invokevirtual 184, 3) := by decide +kernel
theorem d_Mod_join_27 : decode m_Mod_join.2.1 27 = .ok (.ifCond .ne 5, 3) := by decide +kernel
theorem d_Mod_join_30 : decode m_Mod_join.2.1 30 = .ok (.iconst 0, 1) := by decide +kernel
theorem d_Mod_join_31 : decode m_Mod_join.2.1 31 = .ok (.ireturn, 1) := by decide +kernel
theorem d_Mod_join_32 : decode m_Mod_join.2.1 32 = .ok (.aload_n 0, 1) := by decide +kernel
theorem d_Mod_join_33 : decode m_Mod_join.2.1 33 = .ok (.iconst 1, 1) := by decide +kernel
theorem d_Mod_join_34 : decode m_Mod_join.2.1 34 = .ok (.putfield 177, 3) := by decide +kernel
theorem d_Mod_join_37 : decode m_Mod_join.2.1 37 = .ok (.aload_n 0, 1) := by decide +kernel
theorem d_Mod_join_38 : decode m_Mod_join.2.1 38 = .ok (.iload_n 1, 1) := by decide +kernel
theorem d_Mod_join_39 : decode m_Mod_join.2.1 39 = .ok (.putfield 187, 3) := by decide +kernel
theorem d_Mod_join_42 : decode m_Mod_join.2.1 42 = .ok (.aload_n 0, 1) := by decide +kernel
theorem d_Mod_join_43 : decode m_Mod_join.2.1 43 = .ok (.iload_n 2, 1) := by decide +kernel
theorem d_Mod_join_44 : decode m_Mod_join.2.1 44 = .ok (.putfield 190, 3) := by decide +kernel
theorem d_Mod_join_47 : decode m_Mod_join.2.1 47 = .ok (.iconst 1, 1) := by decide +kernel
theorem d_Mod_join_48 : decode m_Mod_join.2.1 48 = .ok (.ireturn, 1) := by decide +kernel
theorem d_Mod_compile_0 : decode m_Mod_compile.2.1 0 = .ok (.aload_n 0, 1) := by decide +kernel
theorem d_Mod_compile_1 : decode m_Mod_compile.2.1 1 = .ok (.aload_n 0, 1) := by decide +kernel
theorem d_Mod_compile_2 : decode m_Mod_compile.2.1 2 = .ok (.getfield 60, 3) := by decide +kernel
theorem d_Mod_compile_5 : decode m_Mod_compile.2.1 5 = .ok (.ifCond .lt 10, 3) := by decide +kernel
theorem d_Mod_compile_8 : decode m_Mod_compile.2.1 8 = .ok (.aload_n 0, 1) := by decide +kernel
theorem d_Mod_compile_9 : decode m_Mod_compile.2.1 9 = .ok (.getfield 171, 3) := by decide +kernel
theorem d_Mod_compile_12 : decode m_Mod_compile.2.1 12 = .ok (.ifCond .ne 7, 3) := by decide +kernel
theorem d_Mod_compile_15 : decode m_Mod_compile.2.1 15 = .ok (.iconst 1, 1) := by decide +kernel
theorem d_Mod_compile_16 : decode m_Mod_compile.2.1 16 = .ok (.goto 4, 3) := by decide +kernel
theorem d_Mod_compile_19 : decode m_Mod_compile.2.1 19 = .ok (.iconst 0, 1) := by decide +kernel
theorem d_Mod_compile_20 : decode m_Mod_compile.2.1 20 = .ok (.putfield 73, 3) := by decide +kernel
theorem d_Mod_compile_23 : decode m_Mod_compile.2.1 23 = .ok (.aload_n 0, 1) := by decide +kernel
theorem d_Mod_compile_24 : decode m_Mod_compile.2.1 24 = .ok (.getfield 73, 3) := by decide +kernel
theorem d_Mod_compile_27 : decode m_Mod_compile.2.1 27 = .ok (.ifCond .le 5, 3) := by decide +kernel
theorem d_Mod_compile_30 : decode m_Mod_compile.2.1 30 = .ok (.iconst 0, 1) := by decide +kernel
theorem d_Mod_compile_31 : decode m_Mod_compile.2.1 31 = .ok (.ireturn, 1) := by decide +kernel
theorem d_Mod_compile_32 : decode m_Mod_compile.2.1 32 = .ok (.aload_n 0, 1) := by decide +kernel
theorem d_Mod_compile_33 : decode m_Mod_compile.2.1 33 = .ok (.getfield 64, 3) := by decide +kernel
theorem d_Mod_compile_36 : decode m_Mod_compile.2.1 36 = .ok (.ifCond .lt 7, 3) := by decide +kernel
theorem d_Mod_compile_39 : decode m_Mod_compile.2.1 39 = .ok (.iconst 1, 1) := by decide +kernel
theorem d_Mod_compile_40 : decode m_Mod_compile.2.1 40 = .ok (.goto 4, 3) := by decide +kernel
theorem d_Mod_compile_43 : decode m_Mod_compile.2.1 43 = .ok (.iconst 0, 1) := by decide +kernel
theorem d_Mod_compile_44 : decode m_Mod_compile.2.1 44 = .ok (.istore_n 1, 1) := by decide +kernel
theorem d_Mod_compile_45 : decode m_Mod_compile.2.1 45 = .ok (.aload_n 0, 1) := by decide +kernel
theorem d_Mod_compile_46 : decode m_Mod_compile.2.1 46 = .ok (.iconst 0, 1) := by decide +kernel
theorem d_Mod_compile_47 : decode m_Mod_compile.2.1 47 = .ok (.putfield 110, 3) := by decide +kernel
theorem d_Mod_compile_50 : decode m_Mod_compile.2.1 50 = .ok (.aload_n 0, 1) := by decide +kernel
theorem d_Mod_compile_51 : decode m_Mod_compile.2.1 51 = .ok (.iconst 1, 1) := by decide +kernel
theorem d_Mod_compile_52 : decode m_Mod_compile.2.1 52 = .ok (.iconst 0, 1) := by decide +kernel
theorem d_Mod_compile_53 : decode m_Mod_compile.2.1 53 = .ok (.aload_n 0, 1) := by decide +kernel
theorem d_Mod_compile_54 : decode m_Mod_compile.2.1 54 = .ok (.getfield 60, 3) := by decide +kernel
theorem d_Mod_compile_57 : decode m_Mod_compile.2.1 57 = .ok (.iconst 0, 1) := by decide +kernel
theorem d_Mod_compile_58 : decode m_Mod_compile.2.1 58 = .ok (.invokevirtual 121, 3) := by decide +kernel
theorem d_Mod_compile_61 : decode m_Mod_compile.2.1 61 = .ok (.iload_n 1, 1) := by decide +kernel
theorem d_Mod_compile_62 : decode m_Mod_compile.2.1 62 = .ok (.ifCond .eq 14, 3) := by decide +kernel
theorem d_Mod_compile_65 : decode m_Mod_compile.2.1 65 = .ok (.aload_n 0, 1) := by decide +kernel
theorem d_Mod_compile_66 : decode m_Mod_compile.2.1 66 = .ok (.iconst 1, 1) := by decide +kernel
theorem d_Mod_compile_67 : decode m_Mod_compile.2.1 67 = .ok (.iconst 1, 1) := by decide +kernel
theorem d_Mod_compile_68 : decode m_Mod_compile.2.1 68 = .ok (.aload_n 0, 1) := by decide +kernel
theorem d_Mod_compile_69 : decode m_Mod_compile.2.1 69 = .ok (.getfield 64, 3) := by decide +kernel
theorem d_Mod_compile_72 : decode m_Mod_compile.2.1 72 = .ok (.iconst 0, 1) := by decide +kernel
theorem d_Mod_compile_73 : decode m_Mod_compile.2.1 73 = .ok (.invokevirtual 121, 3) := by decide +kernel
theorem d_Mod_compile_76 : decode m_Mod_compile.2.1 76 = .ok (.aload_n 0, 1) := by decide +kernel
theorem d_Mod_compile_77 : decode m_Mod_compile.2.1 77 = .ok (.getfield 110, 3) := by decide +kernel
theorem d_Mod_compile_80 : decode m_Mod_compile.2.1 80 = .ok (.aload_n 0, 1) := by decide +kernel
theorem d_Mod_compile_81 : decode m_Mod_compile.2.1 81 = .ok (.iconst 0, 1) := by decide +kernel
theorem d_Mod_compile_82 : decode m_Mod_compile.2.1 82 = .ok (.invokevirtual 200, 3) := by decide +kernel
theorem d_Mod_compile_85 : decode m_Mod_compile.2.1 85 = .ok (.iadd, 1) := by decide +kernel
theorem d_Mod_compile_86 : decode m_Mod_compile.2.1 86 = .ok (.istore_n 2, 1) := by decide +kernel
theorem d_Mod_compile_87 : decode m_Mod_compile.2.1 87 = .ok (.iload_n 2, 1) := by decide +kernel
theorem d_Mod_compile_88 : decode m_Mod_compile.2.1 88 = .ok (.iload_n 1, 1) := by decide +kernel
theorem d_Mod_compile_89 : decode m_Mod_compile.2.1 89 = .ok (.ifCond .eq 24, 3) := by decide +kernel
theorem d_Mod_compile_92 : decode m_Mod_compile.2.1 92 = .ok (.aload_n 0, 1) := by decide +kernel
theorem d_Mod_compile_93 : decode m_Mod_compile.2.1 93 = .ok (.iconst 1, 1) := by decide +kernel
theorem d_Mod_compile_94 : decode m_Mod_compile.2.1 94 = .ok (.invokevirtual 200, 3) := by decide +kernel
theorem d_Mod_compile_97 : decode m_Mod_compile.2.1 97 = .ok (.aload_n 0, 1) := by decide +kernel
theorem d_Mod_compile_98 : decode m_Mod_compile.2.1 98 = .ok (.getfield 177, 3) := by decide +kernel
theorem d_Mod_compile_101 : decode m_Mod_compile.2.1 101 = .ok (.ifCond .eq 7, 3) := by decide +kernel
theorem d_Mod_compile_104 : decode m_Mod_compile.2.1 104 = .ok (.iconst 4, 1) := by decide +kernel
theorem d_Mod_compile_105 : decode m_Mod_compile.2.1 105 = .ok (.goto 4, 3) := by decide +kernel
theorem d_Mod_compile_108 : decode m_Mod_compile.2.1 108 = .ok (.iconst 0, 1) := by decide +kernel
theorem d_Mod_compile_109 : decode m_Mod_compile.2.1 109 = .ok (.iadd, 1) := by decide +kernel
theorem d_Mod_compile_110 : decode m_Mod_compile.2.1 110 = .ok (.goto 4, 3) := by decide +kernel
theorem d_Mod_compile_113 : decode m_Mod_compile.2.1 113 = .ok (.iconst 0, 1) := by decide +kernel
theorem d_Mod_compile_114 : decode m_Mod_compile.2.1 114 = .ok (.iadd, 1) := by decide +kernel
theorem d_Mod_compile_115 : decode m_Mod_compile.2.1 115 = .ok (.aload_n 0, 1) := by decide +kernel
theorem d_Mod_compile_116 : decode m_Mod_compile.2.1 116 = .ok (.getfield 171, 3) := by decide +kernel
theorem d_Mod_compile_119 : decode m_Mod_compile.2.1 119 = .ok (.iadd, 1) := by decide +kernel
theorem d_Mod_compile_120 : decode m_Mod_compile.2.1 120 = .ok (.iconst 1, 1) := by decide +kernel
theorem d_Mod_compile_121 : decode m_Mod_compile.2.1 121 = .ok (.iadd, 1) := by decide +kernel
theorem d_Mod_compile_122 : decode m_Mod_compile.2.1 122 = .ok (.istore_n 3, 1) := by decide +kernel
theorem d_Mod_compile_123 : decode m_Mod_compile.2.1 123 = .ok (.iload_n 1, 1) := by decide +kernel
theorem d_Mod_compile_124 : decode m_Mod_compile.2.1 124 = .ok (.ifCond .eq 9, 3) := by decide +kernel
theorem d_Mod_compile_127 : decode m_Mod_compile.2.1 127 = .ok (.iload_n 3, 1) := by decide +kernel
theorem d_Mod_compile_128 : decode m_Mod_compile.2.1 128 = .ok (.iconst 1, 1) := by decide +kernel
theorem d_Mod_compile_129 : decode m_Mod_compile.2.1 129 = .ok (.iadd, 1) := by decide +kernel
theorem d_Mod_compile_130 : decode m_Mod_compile.2.1 130 = .ok (.goto 4, 3) := by decide +kernel
theorem d_Mod_compile_133 : decode m_Mod_compile.2.1 133 = .ok (.iload_n 3, 1) := by decide +kernel
theorem d_Mod_compile_134 : decode m_Mod_compile.2.1 134 = .ok (.istore 4, 2) := by decide +kernel
theorem d_Mod_compile_136 : decode m_Mod_compile.2.1 136 = .ok (.aload_n 0, 1) := by decide +kernel
theorem d_Mod_compile_137 : decode m_Mod_compile.2.1 137 = .ok (.iconst 0, 1) := by decide +kernel
theorem d_Mod_compile_138 : decode m_Mod_compile.2.1 138 = .ok (.iload 4, 2) := by decide +kernel
theorem d_Mod_compile_140 : decode m_Mod_compile.2.1 140 = .ok (.iconst 1, 1) := by decide +kernel
theorem d_Mod_compile_141 : decode m_Mod_compile.2.1 141 = .ok (.iadd, 1) := by decide +kernel
theorem d_Mod_compile_142 : decode m_Mod_compile.2.1 142 = .ok (.iload 4, 2) := by decide +kernel
theorem d_Mod_compile_144 : decode m_Mod_compile.2.1 144 = .ok (.invokevirtual 203, 3) := by decide +kernel
theorem d_Mod_compile_147 : decode m_Mod_compile.2.1 147 = .ok (.istore 5, 2) := by decide +kernel
theorem d_Mod_compile_149 : decode m_Mod_compile.2.1 149 = .ok (.iload_n 1, 1) := by decide +kernel
theorem d_Mod_compile_150 : decode m_Mod_compile.2.1 150 = .ok (.ifCond .eq 79, 3) := by decide +kernel
theorem d_Mod_compile_153 : decode m_Mod_compile.2.1 153 = .ok (.aload_n 0, 1) := by decide +kernel
theorem d_Mod_compile_154 : decode m_Mod_compile.2.1 154 = .ok (.iconst 1, 1) := by decide +kernel
theorem d_Mod_compile_155 : decode m_Mod_compile.2.1 155 = .ok (.iload 4, 2) := by decide +kernel
theorem d_Mod_compile_157 : decode m_Mod_compile.2.1 157 = .ok (.iload_n 3, 1) := by decide +kernel
theorem d_Mod_compile_158 : decode m_Mod_compile.2.1 158 = .ok (.invokevirtual 203, 3) := by decide +kernel
theorem d_Mod_compile_161 : decode m_Mod_compile.2.1 161 = .ok (.istore 6, 2) := by decide +kernel
theorem d_Mod_compile_163 : decode m_Mod_compile.2.1 163 = .ok (.aload_n 0, 1) := by decide +kernel
theorem d_Mod_compile_164 : decode m_Mod_compile.2.1 164 = .ok (.getfield 177, 3) := by decide +kernel
theorem d_Mod_compile_167 : decode m_Mod_compile.2.1 167 = .ok (.ifCond .eq 46, 3) := by decide +kernel
theorem d_Mod_compile_170 : decode m_Mod_compile.2.1 170 = .ok (.aload_n 0, 1) := by decide +kernel
theorem d_Mod_compile_171 : decode m_Mod_compile.2.1 171 = .ok (.iconst 0, 1) := by decide +kernel
theorem d_Mod_compile_172 : decode m_Mod_compile.2.1 172 = .ok (.aload_n 0, 1) := by decide +kernel
theorem d_Mod_compile_173 : decode m_Mod_compile.2.1 173 = .ok (.getfield 187, 3) := by decide +kernel
theorem d_Mod_compile_176 : decode m_Mod_compile.2.1 176 = .ok (.iconst 0, 1) := by decide +kernel
theorem d_Mod_compile_177 : decode m_Mod_compile.2.1 177 = .ok (.invokevirtual 196, 3) := by decide +kernel
theorem d_Mod_compile_180 : decode m_Mod_compile.2.1 180 = .ok (.aload_n 0, 1) := by decide +kernel
theorem d_Mod_compile_181 : decode m_Mod_compile.2.1 181 = .ok (.iconst 1, 1) := by decide +kernel
theorem d_Mod_compile_182 : decode m_Mod_compile.2.1 182 = .ok (.aload_n 0, 1) := by decide +kernel
theorem d_Mod_compile_183 : decode m_Mod_compile.2.1 183 = .ok (.getfield 190, 3) := by decide +kernel
theorem d_Mod_compile_186 : decode m_Mod_compile.2.1 186 = .ok (.iconst 1, 1) := by decide +kernel
theorem d_Mod_compile_187 : decode m_Mod_compile.2.1 187 = .ok (.invokevirtual 196, 3) := by decide +kernel
theorem d_Mod_compile_190 : decode m_Mod_compile.2.1 190 = .ok (.aload_n 0, 1) := by decide +kernel
theorem d_Mod_compile_191 : decode m_Mod_compile.2.1 191 = .ok (.bipush 9, 2) := by decide +kernel
theorem d_Mod_compile_193 : decode m_Mod_compile.2.1 193 = .ok (.iconst 0, 1) := by decide +kernel
theorem d_Mod_compile_194 : decode m_Mod_compile.2.1 194 = .ok (.aload_n 0, 1) := by decide +kernel
theorem d_Mod_compile_195 : decode m_Mod_compile.2.1 195 = .ok (.getfield 110, 3) := by decide +kernel
theorem d_Mod_compile_198 : decode m_Mod_compile.2.1 198 = .ok (.iconst 2, 1) := by decide +kernel
theorem d_Mod_compile_199 : decode m_Mod_compile.2.1 199 = .ok (.iadd, 1) := by decide +kernel
theorem d_Mod_compile_200 : decode m_Mod_compile.2.1 200 = .ok (.iconst 1, 1) := by decide +kernel
theorem d_Mod_compile_201 : decode m_Mod_compile.2.1 201 = .ok (.invokevirtual 121, 3) := by decide +kernel
theorem d_Mod_compile_204 : decode m_Mod_compile.2.1 204 = .ok (.aload_n 0, 1) := by decide +kernel
theorem d_Mod_compile_205 : decode m_Mod_compile.2.1 205 = .ok (.bipush 19, 2) := by decide +kernel
theorem d_Mod_compile_207 : decode m_Mod_compile.2.1 207 = .ok (.iload_n 3, 1) := by decide +kernel
theorem d_Mod_compile_208 : decode m_Mod_compile.2.1 208 = .ok (.iconst 0, 1) := by decide +kernel
theorem d_Mod_compile_209 : decode m_Mod_compile.2.1 209 = .ok (.iconst 0, 1) := by decide +kernel
theorem d_Mod_compile_210 : decode m_Mod_compile.2.1 210 = .ok (.invokevirtual 121, 3) := by decide +kernel
theorem d_Mod_compile_213 : decode m_Mod_compile.2.1 213 = .ok (.aload_n 0, 1) := by decide +kernel
theorem d_Mod_compile_214 : decode m_Mod_compile.2.1 214 = .ok (.invokevirtual 207, 3) := by decide +kernel
theorem d_Mod_compile_217 : decode m_Mod_compile.2.1 217 = .ok (.aload_n 0, 1) := by decide +kernel
theorem d_Mod_compile_218 : decode m_Mod_compile.2.1 218 = .ok (.iconst 3, 1) := by decide +kernel
theorem d_Mod_compile_219 : decode m_Mod_compile.2.1 219 = .ok (.iconst 1, 1) := by decide +kernel
theorem d_Mod_compile_220 : decode m_Mod_compile.2.1 220 = .ok (.iload 6, 2) := by decide +kernel
theorem d_Mod_compile_222 : decode m_Mod_compile.2.1 222 = .ok (.iconst 0, 1) := by decide +kernel
theorem d_Mod_compile_223 : decode m_Mod_compile.2.1 223 = .ok (.invokevirtual 121, 3) := by decide +kernel
theorem d_Mod_compile_226 : decode m_Mod_compile.2.1 226 = .ok (.goto 7, 3) := by decide +kernel
theorem d_Mod_compile_229 : decode m_Mod_compile.2.1 229 = .ok (.aload_n 0, 1) := by decide +kernel
theorem d_Mod_compile_230 : decode m_Mod_compile.2.1 230 = .ok (.invokevirtual 207, 3) := by decide +kernel
theorem d_Mod_compile_233 : decode m_Mod_compile.2.1 233 = .ok (.aload_n 0, 1) := by decide +kernel
theorem d_Mod_compile_234 : decode m_Mod_compile.2.1 234 = .ok (.iconst 3, 1) := by decide +kernel
theorem d_Mod_compile_235 : decode m_Mod_compile.2.1 235 = .ok (.iconst 0, 1) := by decide +kernel
theorem d_Mod_compile_236 : decode m_Mod_compile.2.1 236 = .ok (.iload 5, 2) := by decide +kernel
theorem d_Mod_compile_238 : decode m_Mod_compile.2.1 238 = .ok (.iconst 0, 1) := by decide +kernel
theorem d_Mod_compile_239 : decode m_Mod_compile.2.1 239 = .ok (.invokevirtual 121, 3) := by decide +kernel
theorem d_Mod_compile_242 : decode m_Mod_compile.2.1 242 = .ok (.aload_n 0, 1) := by decide +kernel
theorem d_Mod_compile_243 : decode m_Mod_compile.2.1 243 = .ok (.iconst 0, 1) := by decide +kernel
theorem d_Mod_compile_244 : decode m_Mod_compile.2.1 244 = .ok (.iconst 0, 1) := by decide +kernel
theorem d_Mod_compile_245 : decode m_Mod_compile.2.1 245 = .ok (.iconst 0, 1) := by decide +kernel
theorem d_Mod_compile_246 : decode m_Mod_compile.2.1 246 = .ok (.iconst 0, 1) := by decide +kernel
theorem d_Mod_compile_247 : decode m_Mod_compile.2.1 247 = .ok (.invokevirtual 121, 3) := by decide +kernel
theorem d_Mod_compile_250 : decode m_Mod_compile.2.1 250 = .ok (.aload_n 0, 1) := by decide +kernel
theorem d_Mod_compile_251 : decode m_Mod_compile.2.1 251 = .ok (.getfield 110, 3) := by decide +kernel
theorem d_Mod_compile_254 : decode m_Mod_compile.2.1 254 = .ok (.ireturn, 1) := by decide +kernel
theorem d_Mod_length_0 : decode m_Mod_length.2.1 0 = .ok (.aload_n 0, 1) := by decide +kernel
theorem d_Mod_length_1 : decode m_Mod_length.2.1 1 = .ok (.iload_n 1, 1) := by decide +kernel
theorem d_Mod_length_2 : decode m_Mod_length.2.1 2 = .ok (.invokevirtual 193, 3) := by decide +kernel
theorem d_Mod_length_5 : decode m_Mod_length.2.1 5 = .ok (.ifCond .ge 7, 3) := by decide +kernel
theorem d_Mod_length_8 : decode m_Mod_length.2.1 8 = .ok (.iconst 1, 1) := by decide +kernel
theorem d_Mod_length_9 : decode m_Mod_length.2.1 9 = .ok (.goto 4, 3) := by decide +kernel
theorem d_Mod_length_12 : decode m_Mod_length.2.1 12 = .ok (.iconst 2, 1) := by decide +kernel
theorem d_Mod_length_13 : decode m_Mod_length.2.1 13 = .ok (.istore_n 2, 1) := by decide +kernel
theorem d_Mod_length_14 : decode m_Mod_length.2.1 14 = .ok (.iconst 0, 1) := by decide +kernel
theorem d_Mod_length_15 : decode m_Mod_length.2.1 15 = .ok (.istore_n 3, 1) := by decide +kernel
theorem d_Mod_length_16 : decode m_Mod_length.2.1 16 = .ok (.iload_n 3, 1) := by decide +kernel
theorem d_Mod_length_17 : decode m_Mod_length.2.1 17 = .ok (.aload_n 0, 1) := by decide +kernel
theorem d_Mod_length_18 : decode m_Mod_length.2.1 18 = .ok (.getfield 174, 3) := by decide +kernel
theorem d_Mod_length_21 : decode m_Mod_length.2.1 21 = .ok (.if_icmp .ge 48, 3) := by decide +kernel
theorem d_Mod_length_24 : decode m_Mod_length.2.1 24 = .ok (.iload_n 2, 1) := by decide +kernel
theorem d_Mod_length_25 : decode m_Mod_length.2.1 25 = .ok (.aload_n 0, 1) := by decide +kernel
theorem d_Mod_length_26 : decode m_Mod_length.2.1 26 = .ok (.getfield 70, 3) := by decide +kernel
theorem d_Mod_length_29 : decode m_Mod_length.2.1 29 = .ok (.iconst 4, 1) := by decide +kernel
theorem d_Mod_length_30 : decode m_Mod_length.2.1 30 = .ok (.iload_n 3, 1) := by decide +kernel
theorem d_Mod_length_31 : decode m_Mod_length.2.1 31 = .ok (.imul, 1) := by decide +kernel
theorem d_Mod_length_32 : decode m_Mod_length.2.1 32 = .ok (.iaload, 1) := by decide +kernel
theorem d_Mod_length_33 : decode m_Mod_length.2.1 33 = .ok (.iload_n 1, 1) := by decide +kernel
theorem d_Mod_length_34 : decode m_Mod_length.2.1 34 = .ok (.if_icmp .eq 7, 3) := by decide +kernel
theorem d_Mod_length_37 : decode m_Mod_length.2.1 37 = .ok (.iconst 0, 1) := by decide +kernel
theorem d_Mod_length_38 : decode m_Mod_length.2.1 38 = .ok (.goto 23, 3) := by decide +kernel
theorem d_Mod_length_41 : decode m_Mod_length.2.1 41 = .ok (.aload_n 0, 1) := by decide +kernel
theorem d_Mod_length_42 : decode m_Mod_length.2.1 42 = .ok (.getfield 70, 3) := by decide +kernel
theorem d_Mod_length_45 : decode m_Mod_length.2.1 45 = .ok (.iconst 4, 1) := by decide +kernel
theorem d_Mod_length_46 : decode m_Mod_length.2.1 46 = .ok (.iload_n 3, 1) := by decide +kernel
theorem d_Mod_length_47 : decode m_Mod_length.2.1 47 = .ok (.imul, 1) := by decide +kernel
theorem d_Mod_length_48 : decode m_Mod_length.2.1 48 = .ok (.iconst 2, 1) := by decide +kernel
theorem d_Mod_length_49 : decode m_Mod_length.2.1 49 = .ok (.iadd, 1) := by decide +kernel
theorem d_Mod_length_50 : decode m_Mod_length.2.1 50 = .ok (.iaload, 1) := by decide +kernel
theorem d_Mod_length_51 : decode m_Mod_length.2.1 51 = .ok (.bipush 6, 2) := by decide +kernel
theorem d_Mod_length_53 : decode m_Mod_length.2.1 53 = .ok (.if_icmp .ge 7, 3) := by decide +kernel
theorem d_Mod_length_56 : decode m_Mod_length.2.1 56 = .ok (.iconst 4, 1) := by decide +kernel
theorem d_Mod_length_57 : decode m_Mod_length.2.1 57 = .ok (.goto 4, 3) := by decide +kernel
theorem d_Mod_length_60 : decode m_Mod_length.2.1 60 = .ok (.iconst 3, 1) := by decide +kernel
theorem d_Mod_length_61 : decode m_Mod_length.2.1 61 = .ok (.iadd, 1) := by decide +kernel
theorem d_Mod_length_62 : decode m_Mod_length.2.1 62 = .ok (.istore_n 2, 1) := by decide +kernel
theorem d_Mod_length_63 : decode m_Mod_length.2.1 63 = .ok (.iinc 3 1, 3) := by decide +kernel
theorem d_Mod_length_66 : decode m_Mod_length.2.1 66 = .ok (.goto (-50), 3) := by decide +kernel
theorem d_Mod_length_69 : decode m_Mod_length.2.1 69 = .ok (.iload_n 2, 1) := by decide +kernel
theorem d_Mod_length_70 : decode m_Mod_length.2.1 70 = .ok (.ireturn, 1) := by decide +kernel
theorem d_Mod_seeker_0 : decode m_Mod_seeker.2.1 0 = .ok (.iconst (-1), 1) := by decide +kernel
theorem d_Mod_seeker_1 : decode m_Mod_seeker.2.1 1 = .ok (.istore_n 2, 1) := by decide +kernel
theorem d_Mod_seeker_2 : decode m_Mod_seeker.2.1 2 = .ok (.aload_n 0, 1) := by decide +kernel
theorem d_Mod_seeker_3 : decode m_Mod_seeker.2.1 3 = .ok (.getfield 174, 3) := by decide +kernel
theorem d_Mod_seeker_6 : decode m_Mod_seeker.2.1 6 = .ok (.iconst 1, 1) := by decide +kernel
theorem d_Mod_seeker_7 : decode m_Mod_seeker.2.1 7 = .ok (.isub, 1) := by decide +kernel
theorem d_Mod_seeker_8 : decode m_Mod_seeker.2.1 8 = .ok (.istore_n 3, 1) := by decide +kernel
theorem d_Mod_seeker_9 : decode m_Mod_seeker.2.1 9 = .ok (.iload_n 3, 1) := by decide +kernel
theorem d_Mod_seeker_10 : decode m_Mod_seeker.2.1 10 = .ok (.ifCond .lt 82, 3) := by decide +kernel
theorem d_Mod_seeker_13 : decode m_Mod_seeker.2.1 13 = .ok (.aload_n 0, 1) := by decide +kernel
theorem d_Mod_seeker_14 : decode m_Mod_seeker.2.1 14 = .ok (.getfield 70, 3) := by decide +kernel
theorem d_Mod_seeker_17 : decode m_Mod_seeker.2.1 17 = .ok (.iconst 4, 1) := by decide +kernel
theorem d_Mod_seeker_18 : decode m_Mod_seeker.2.1 18 = .ok (.iload_n 3, 1) := by decide +kernel
theorem d_Mod_seeker_19 : decode m_Mod_seeker.2.1 19 = .ok (.imul, 1) := by decide +kernel
theorem d_Mod_seeker_20 : decode m_Mod_seeker.2.1 20 = .ok (.iconst 2, 1) := by decide +kernel
theorem d_Mod_seeker_21 : decode m_Mod_seeker.2.1 21 = .ok (.iadd, 1) := by decide +kernel
theorem d_Mod_seeker_22 : decode m_Mod_seeker.2.1 22 = .ok (.iaload, 1) := by decide +kernel
theorem d_Mod_seeker_23 : decode m_Mod_seeker.2.1 23 = .ok (.istore 4, 2) := by decide +kernel
theorem d_Mod_seeker_25 : decode m_Mod_seeker.2.1 25 = .ok (.aload_n 0, 1) := by decide +kernel
theorem d_Mod_seeker_26 : decode m_Mod_seeker.2.1 26 = .ok (.getfield 70, 3) := by decide +kernel
theorem d_Mod_seeker_29 : decode m_Mod_seeker.2.1 29 = .ok (.iconst 4, 1) := by decide +kernel
theorem d_Mod_seeker_30 : decode m_Mod_seeker.2.1 30 = .ok (.iload_n 3, 1) := by decide +kernel
theorem d_Mod_seeker_31 : decode m_Mod_seeker.2.1 31 = .ok (.imul, 1) := by decide +kernel
theorem d_Mod_seeker_32 : decode m_Mod_seeker.2.1 32 = .ok (.iaload, 1) := by decide +kernel
theorem d_Mod_seeker_33 : decode m_Mod_seeker.2.1 33 = .ok (.iload_n 1, 1) := by decide +kernel
theorem d_Mod_seeker_34 : decode m_Mod_seeker.2.1 34 = .ok (.if_icmp .ne 38, 3) := by decide +kernel
theorem d_Mod_seeker_37 : decode m_Mod_seeker.2.1 37 = .ok (.aload_n 0, 1) := by decide +kernel
theorem d_Mod_seeker_38 : decode m_Mod_seeker.2.1 38 = .ok (.getfield 70, 3) := by decide +kernel
theorem d_Mod_seeker_41 : decode m_Mod_seeker.2.1 41 = .ok (.iconst 4, 1) := by decide +kernel
theorem d_Mod_seeker_42 : decode m_Mod_seeker.2.1 42 = .ok (.iload_n 3, 1) := by decide +kernel
theorem d_Mod_seeker_43 : decode m_Mod_seeker.2.1 43 = .ok (.imul, 1) := by decide +kernel
theorem d_Mod_seeker_44 : decode m_Mod_seeker.2.1 44 = .ok (.iconst 1, 1) := by decide +kernel
theorem d_Mod_seeker_45 : decode m_Mod_seeker.2.1 45 = .ok (.iadd, 1) := by decide +kernel
theorem d_Mod_seeker_46 : decode m_Mod_seeker.2.1 46 = .ok (.iaload, 1) := by decide +kernel
theorem d_Mod_seeker_47 : decode m_Mod_seeker.2.1 47 = .ok (.iconst (-1), 1) := by decide +kernel
theorem d_Mod_seeker_48 : decode m_Mod_seeker.2.1 48 = .ok (.if_icmp .ne 24, 3) := by decide +kernel
theorem d_Mod_seeker_51 : decode m_Mod_seeker.2.1 51 = .ok (.iload 4, 2) := by decide +kernel
theorem d_Mod_seeker_53 : decode m_Mod_seeker.2.1 53 = .ok (.ifCond .eq 15, 3) := by decide +kernel
theorem d_Mod_seeker_56 : decode m_Mod_seeker.2.1 56 = .ok (.iload 4, 2) := by decide +kernel
theorem d_Mod_seeker_58 : decode m_Mod_seeker.2.1 58 = .ok (.iconst 4, 1) := by decide +kernel
theorem d_Mod_seeker_59 : decode m_Mod_seeker.2.1 59 = .ok (.if_icmp .eq 9, 3) := by decide +kernel
theorem d_Mod_seeker_62 : decode m_Mod_seeker.2.1 62 = .ok (.iload 4, 2) := by decide +kernel
theorem d_Mod_seeker_64 : decode m_Mod_seeker.2.1 64 = .ok (.iconst 5, 1) := by decide +kernel
theorem d_Mod_seeker_65 : decode m_Mod_seeker.2.1 65 = .ok (.if_icmp .ne 7, 3) := by decide +kernel
theorem d_Mod_seeker_68 : decode m_Mod_seeker.2.1 68 = .ok (.iconst 1, 1) := by decide +kernel
theorem d_Mod_seeker_69 : decode m_Mod_seeker.2.1 69 = .ok (.goto 4, 3) := by decide +kernel
theorem d_Mod_seeker_72 : decode m_Mod_seeker.2.1 72 = .ok (.iconst 0, 1) := by decide +kernel
theorem d_Mod_seeker_73 : decode m_Mod_seeker.2.1 73 = .ok (.istore 5, 2) := by decide +kernel
theorem d_Mod_seeker_75 : decode m_Mod_seeker.2.1 75 = .ok (.iload 5, 2) := by decide +kernel
theorem d_Mod_seeker_77 : decode m_Mod_seeker.2.1 77 = .ok (.ifCond .eq 7, 3) := by decide +kernel
theorem d_Mod_seeker_80 : decode m_Mod_seeker.2.1 80 = .ok (.iload_n 3, 1) := by decide +kernel
theorem d_Mod_seeker_81 : decode m_Mod_seeker.2.1 81 = .ok (.goto 4, 3) := by decide +kernel
theorem d_Mod_seeker_84 : decode m_Mod_seeker.2.1 84 = .ok (.iload_n 2, 1) := by decide +kernel
theorem d_Mod_seeker_85 : decode m_Mod_seeker.2.1 85 = .ok (.istore_n 2, 1) := by decide +kernel
theorem d_Mod_seeker_86 : decode m_Mod_seeker.2.1 86 = .ok (.iinc 3 (-1), 3) := by decide +kernel
theorem d_Mod_seeker_89 : decode m_Mod_seeker.2.1 89 = .ok (.goto (-80), 3) := by decide +kernel
theorem d_Mod_seeker_92 : decode m_Mod_seeker.2.1 92 = .ok (.iload_n 2, 1) := by decide +kernel
theorem d_Mod_seeker_93 : decode m_Mod_seeker.2.1 93 = .ok (.ireturn, 1) := by decide +kernel
theorem d_Mod_loop_0 : decode m_Mod_loop.2.1 0 = .ok (.aload_n 0, 1) := by decide +kernel
theorem d_Mod_loop_1 : decode m_Mod_loop.2.1 1 = .ok (.iload_n 1, 1) := by decide +kernel
theorem d_Mod_loop_2 : decode m_Mod_loop.2.1 2 = .ok (.invokevirtual 193, 3) := by decide +kernel
theorem d_Mod_loop_5 : decode m_Mod_loop.2.1 5 = .ok (.istore 4, 2) := by decide +kernel
theorem d_Mod_loop_7 : decode m_Mod_loop.2.1 7 = .ok (.iload 4, 2) := by decide +kernel
theorem d_Mod_loop_9 : decode m_Mod_loop.2.1 9 = .ok (.ifCond .ge 14, 3) := by decide +kernel
theorem d_Mod_loop_12 : decode m_Mod_loop.2.1 12 = .ok (.aload_n 0, 1) := by decide +kernel
theorem d_Mod_loop_13 : decode m_Mod_loop.2.1 13 = .ok (.iconst 2, 1) := by decide +kernel
theorem d_Mod_loop_14 : decode m_Mod_loop.2.1 14 = .ok (.iload_n 1, 1) := by decide +kernel
theorem d_Mod_loop_15 : decode m_Mod_loop.2.1 15 = .ok (.iload_n 2, 1) := by decide +kernel
theorem d_Mod_loop_16 : decode m_Mod_loop.2.1 16 = .ok (.iconst 0, 1) := by decide +kernel
theorem d_Mod_loop_17 : decode m_Mod_loop.2.1 17 = .ok (.invokevirtual 121, 3) := by decide +kernel
theorem d_Mod_loop_20 : decode m_Mod_loop.2.1 20 = .ok (.goto 31, 3) := by decide +kernel
theorem d_Mod_loop_23 : decode m_Mod_loop.2.1 23 = .ok (.aload_n 0, 1) := by decide +kernel
theorem d_Mod_loop_24 : decode m_Mod_loop.2.1 24 = .ok (.bipush 6, 2) := by decide +kernel
theorem d_Mod_loop_26 : decode m_Mod_loop.2.1 26 = .ok (.aload_n 0, 1) := by decide +kernel
theorem d_Mod_loop_27 : decode m_Mod_loop.2.1 27 = .ok (.getfield 70, 3) := by decide +kernel
theorem d_Mod_loop_30 : decode m_Mod_loop.2.1 30 = .ok (.iconst 4, 1) := by decide +kernel
theorem d_Mod_loop_31 : decode m_Mod_loop.2.1 31 = .ok (.iload 4, 2) := by decide +kernel
theorem d_Mod_loop_33 : decode m_Mod_loop.2.1 33 = .ok (.imul, 1) := by decide +kernel
theorem d_Mod_loop_34 : decode m_Mod_loop.2.1 34 = .ok (.iconst 3, 1) := by decide +kernel
theorem d_Mod_loop_35 : decode m_Mod_loop.2.1 35 = .ok (.iadd, 1) := by decide +kernel
theorem d_Mod_loop_36 : decode m_Mod_loop.2.1 36 = .ok (.iaload, 1) := by decide +kernel
theorem d_Mod_loop_37 : decode m_Mod_loop.2.1 37 = .ok (.iconst 0, 1) := by decide +kernel
theorem d_Mod_loop_38 : decode m_Mod_loop.2.1 38 = .ok (.iconst 0, 1) := by decide +kernel
theorem d_Mod_loop_39 : decode m_Mod_loop.2.1 39 = .ok (.invokevirtual 121, 3) := by decide +kernel
theorem d_Mod_loop_42 : decode m_Mod_loop.2.1 42 = .ok (.aload_n 0, 1) := by decide +kernel
theorem d_Mod_loop_43 : decode m_Mod_loop.2.1 43 = .ok (.bipush 8, 2) := by decide +kernel
theorem d_Mod_loop_45 : decode m_Mod_loop.2.1 45 = .ok (.iload_n 1, 1) := by decide +kernel
theorem d_Mod_loop_46 : decode m_Mod_loop.2.1 46 = .ok (.iload_n 2, 1) := by decide +kernel
theorem d_Mod_loop_47 : decode m_Mod_loop.2.1 47 = .ok (.iconst 0, 1) := by decide +kernel
theorem d_Mod_loop_48 : decode m_Mod_loop.2.1 48 = .ok (.invokevirtual 121, 3) := by decide +kernel
theorem d_Mod_loop_51 : decode m_Mod_loop.2.1 51 = .ok (.aload_n 0, 1) := by decide +kernel
theorem d_Mod_loop_52 : decode m_Mod_loop.2.1 52 = .ok (.getfield 110, 3) := by decide +kernel
theorem d_Mod_loop_55 : decode m_Mod_loop.2.1 55 = .ok (.istore 5, 2) := by decide +kernel
theorem d_Mod_loop_57 : decode m_Mod_loop.2.1 57 = .ok (.iconst 0, 1) := by decide +kernel
theorem d_Mod_loop_58 : decode m_Mod_loop.2.1 58 = .ok (.istore 6, 2) := by decide +kernel
theorem d_Mod_loop_60 : decode m_Mod_loop.2.1 60 = .ok (.iload 6, 2) := by decide +kernel
theorem d_Mod_loop_62 : decode m_Mod_loop.2.1 62 = .ok (.aload_n 0, 1) := by decide +kernel
theorem d_Mod_loop_63 : decode m_Mod_loop.2.1 63 = .ok (.getfield 174, 3) := by decide +kernel
theorem d_Mod_loop_66 : decode m_Mod_loop.2.1 66 = .ok (.if_icmp .ge 104, 3) := by decide +kernel
theorem d_Mod_loop_69 : decode m_Mod_loop.2.1 69 = .ok (.aload_n 0, 1) := by decide +kernel
theorem d_Mod_loop_70 : decode m_Mod_loop.2.1 70 = .ok (.getfield 70, 3) := by decide +kernel
theorem d_Mod_loop_73 : decode m_Mod_loop.2.1 73 = .ok (.iconst 4, 1) := by decide +kernel
theorem d_Mod_loop_74 : decode m_Mod_loop.2.1 74 = .ok (.iload 6, 2) := by decide +kernel
theorem d_Mod_loop_76 : decode m_Mod_loop.2.1 76 = .ok (.imul, 1) := by decide +kernel
theorem d_Mod_loop_77 : decode m_Mod_loop.2.1 77 = .ok (.iaload, 1) := by decide +kernel
theorem d_Mod_loop_78 : decode m_Mod_loop.2.1 78 = .ok (.iload_n 1, 1) := by decide +kernel
theorem d_Mod_loop_79 : decode m_Mod_loop.2.1 79 = .ok (.if_icmp .ne 85, 3) := by decide +kernel
theorem d_Mod_loop_82 : decode m_Mod_loop.2.1 82 = .ok (.aload_n 0, 1) := by decide +kernel
theorem d_Mod_loop_83 : decode m_Mod_loop.2.1 83 = .ok (.getfield 70, 3) := by decide +kernel
theorem d_Mod_loop_86 : decode m_Mod_loop.2.1 86 = .ok (.iconst 4, 1) := by decide +kernel
theorem d_Mod_loop_87 : decode m_Mod_loop.2.1 87 = .ok (.iload 6, 2) := by decide +kernel
theorem d_Mod_loop_89 : decode m_Mod_loop.2.1 89 = .ok (.imul, 1) := by decide +kernel
theorem d_Mod_loop_90 : decode m_Mod_loop.2.1 90 = .ok (.iconst 2, 1) := by decide +kernel
theorem d_Mod_loop_91 : decode m_Mod_loop.2.1 91 = .ok (.iadd, 1) := by decide +kernel
theorem d_Mod_loop_92 : decode m_Mod_loop.2.1 92 = .ok (.iaload, 1) := by decide +kernel
theorem d_Mod_loop_93 : decode m_Mod_loop.2.1 93 = .ok (.istore 7, 2) := by decide +kernel
theorem d_Mod_loop_95 : decode m_Mod_loop.2.1 95 = .ok (.aload_n 0, 1) := by decide +kernel
theorem d_Mod_loop_96 : decode m_Mod_loop.2.1 96 = .ok (.iload_n 1, 1) := by decide +kernel
theorem d_Mod_loop_97 : decode m_Mod_loop.2.1 97 = .ok (.aload_n 0, 1) := by decide +kernel
theorem d_Mod_loop_98 : decode m_Mod_loop.2.1 98 = .ok (.getfield 70, 3) := by decide +kernel
theorem d_Mod_loop_101 : decode m_Mod_loop.2.1 101 = .ok (.iconst 4, 1) := by decide +kernel
theorem d_Mod_loop_102 : decode m_Mod_loop.2.1 102 = .ok (.iload 6, 2) := by decide +kernel
theorem d_Mod_loop_104 : decode m_Mod_loop.2.1 104 = .ok (.imul, 1) := by decide +kernel
theorem d_Mod_loop_105 : decode m_Mod_loop.2.1 105 = .ok (.iconst 1, 1) := by decide +kernel
theorem d_Mod_loop_106 : decode m_Mod_loop.2.1 106 = .ok (.iadd, 1) := by decide +kernel
theorem d_Mod_loop_107 : decode m_Mod_loop.2.1 107 = .ok (.iaload, 1) := by decide +kernel
theorem d_Mod_loop_108 : decode m_Mod_loop.2.1 108 = .ok (.iconst 0, 1) := by decide +kernel
theorem d_Mod_loop_109 : decode m_Mod_loop.2.1 109 = .ok (.invokevirtual 196, 3) := by decide +kernel
theorem d_Mod_loop_112 : decode m_Mod_loop.2.1 112 = .ok (.iload 7, 2) := by decide +kernel
theorem d_Mod_loop_114 : decode m_Mod_loop.2.1 114 = .ok (.bipush 6, 2) := by decide +kernel
theorem d_Mod_loop_116 : decode m_Mod_loop.2.1 116 = .ok (.if_icmp .ge 22, 3) := by decide +kernel
theorem d_Mod_loop_119 : decode m_Mod_loop.2.1 119 = .ok (.aload_n 0, 1) := by decide +kernel
theorem d_Mod_loop_120 : decode m_Mod_loop.2.1 120 = .ok (.bipush 6, 2) := by decide +kernel
theorem d_Mod_loop_122 : decode m_Mod_loop.2.1 122 = .ok (.aload_n 0, 1) := by decide +kernel
theorem d_Mod_loop_123 : decode m_Mod_loop.2.1 123 = .ok (.getfield 70, 3) := by decide +kernel
theorem d_Mod_loop_126 : decode m_Mod_loop.2.1 126 = .ok (.iconst 4, 1) := by decide +kernel
theorem d_Mod_loop_127 : decode m_Mod_loop.2.1 127 = .ok (.iload 6, 2) := by decide +kernel
theorem d_Mod_loop_129 : decode m_Mod_loop.2.1 129 = .ok (.imul, 1) := by decide +kernel
theorem d_Mod_loop_130 : decode m_Mod_loop.2.1 130 = .ok (.iconst 3, 1) := by decide +kernel
theorem d_Mod_loop_131 : decode m_Mod_loop.2.1 131 = .ok (.iadd, 1) := by decide +kernel
theorem d_Mod_loop_132 : decode m_Mod_loop.2.1 132 = .ok (.iaload, 1) := by decide +kernel
theorem d_Mod_loop_133 : decode m_Mod_loop.2.1 133 = .ok (.iconst 1, 1) := by decide +kernel
theorem d_Mod_loop_134 : decode m_Mod_loop.2.1 134 = .ok (.iconst 0, 1) := by decide +kernel
theorem d_Mod_loop_135 : decode m_Mod_loop.2.1 135 = .ok (.invokevirtual 121, 3) := by decide +kernel
theorem d_Mod_loop_138 : decode m_Mod_loop.2.1 138 = .ok (.aload_n 0, 1) := by decide +kernel
theorem d_Mod_loop_139 : decode m_Mod_loop.2.1 139 = .ok (.bipush 9, 2) := by decide +kernel
theorem d_Mod_loop_141 : decode m_Mod_loop.2.1 141 = .ok (.iload 7, 2) := by decide +kernel
theorem d_Mod_loop_143 : decode m_Mod_loop.2.1 143 = .ok (.iadd, 1) := by decide +kernel
theorem d_Mod_loop_144 : decode m_Mod_loop.2.1 144 = .ok (.iconst 0, 1) := by decide +kernel
theorem d_Mod_loop_145 : decode m_Mod_loop.2.1 145 = .ok (.aload_n 0, 1) := by decide +kernel
theorem d_Mod_loop_146 : decode m_Mod_loop.2.1 146 = .ok (.getfield 110, 3) := by decide +kernel
theorem d_Mod_loop_149 : decode m_Mod_loop.2.1 149 = .ok (.iconst 2, 1) := by decide +kernel
theorem d_Mod_loop_150 : decode m_Mod_loop.2.1 150 = .ok (.iadd, 1) := by decide +kernel
theorem d_Mod_loop_151 : decode m_Mod_loop.2.1 151 = .ok (.iconst 1, 1) := by decide +kernel
theorem d_Mod_loop_152 : decode m_Mod_loop.2.1 152 = .ok (.invokevirtual 121, 3) := by decide +kernel
theorem d_Mod_loop_155 : decode m_Mod_loop.2.1 155 = .ok (.aload_n 0, 1) := by decide +kernel
theorem d_Mod_loop_156 : decode m_Mod_loop.2.1 156 = .ok (.bipush 19, 2) := by decide +kernel
theorem d_Mod_loop_158 : decode m_Mod_loop.2.1 158 = .ok (.iload_n 3, 1) := by decide +kernel
theorem d_Mod_loop_159 : decode m_Mod_loop.2.1 159 = .ok (.iconst 0, 1) := by decide +kernel
theorem d_Mod_loop_160 : decode m_Mod_loop.2.1 160 = .ok (.iconst 0, 1) := by decide +kernel
theorem d_Mod_loop_161 : decode m_Mod_loop.2.1 161 = .ok (.invokevirtual 121, 3) := by decide +kernel
theorem d_Mod_loop_164 : decode m_Mod_loop.2.1 164 = .ok (.iinc 6 1, 3) := by decide +kernel
theorem d_Mod_loop_167 : decode m_Mod_loop.2.1 167 = .ok (.goto (-107), 3) := by decide +kernel
theorem d_Mod_loop_170 : decode m_Mod_loop.2.1 170 = .ok (.iload 5, 2) := by decide +kernel
theorem d_Mod_loop_172 : decode m_Mod_loop.2.1 172 = .ok (.ireturn, 1) := by decide +kernel
theorem d_Mod_read_0 : decode m_Mod_read.2.1 0 = .ok (.iload_n 2, 1) := by decide +kernel
theorem d_Mod_read_1 : decode m_Mod_read.2.1 1 = .ok (.iconst (-1), 1) := by decide +kernel
theorem d_Mod_read_2 : decode m_Mod_read.2.1 2 = .ok (.if_icmp .ne 14, 3) := by decide +kernel
theorem d_Mod_read_5 : decode m_Mod_read.2.1 5 = .ok (.aload_n 0, 1) := by decide +kernel
theorem d_Mod_read_6 : decode m_Mod_read.2.1 6 = .ok (.iconst 5, 1) := by decide +kernel
theorem d_Mod_read_7 : decode m_Mod_read.2.1 7 = .ok (.iload_n 1, 1) := by decide +kernel
theorem d_Mod_read_8 : decode m_Mod_read.2.1 8 = .ok (.iload_n 3, 1) := by decide +kernel
theorem d_Mod_read_9 : decode m_Mod_read.2.1 9 = .ok (.iconst 0, 1) := by decide +kernel
theorem d_Mod_read_10 : decode m_Mod_read.2.1 10 = .ok (.invokevirtual 121, 3) := by decide +kernel
theorem d_Mod_read_13 : decode m_Mod_read.2.1 13 = .ok (.goto 11, 3) := by decide +kernel
theorem d_Mod_read_16 : decode m_Mod_read.2.1 16 = .ok (.aload_n 0, 1) := by decide +kernel
theorem d_Mod_read_17 : decode m_Mod_read.2.1 17 = .ok (.iconst 4, 1) := by decide +kernel
theorem d_Mod_read_18 : decode m_Mod_read.2.1 18 = .ok (.iload_n 1, 1) := by decide +kernel
theorem d_Mod_read_19 : decode m_Mod_read.2.1 19 = .ok (.iload_n 2, 1) := by decide +kernel
theorem d_Mod_read_20 : decode m_Mod_read.2.1 20 = .ok (.iload_n 3, 1) := by decide +kernel
theorem d_Mod_read_21 : decode m_Mod_read.2.1 21 = .ok (.invokevirtual 121, 3) := by decide +kernel
theorem d_Mod_read_24 : decode m_Mod_read.2.1 24 = .ok (.return_, 1) := by decide +kernel
theorem d_Mod_outputsAndResult_0 : decode m_Mod_outputsAndResult.2.1 0 = .ok (.iconst 0, 1) := by decide +kernel
theorem d_Mod_outputsAndResult_1 : decode m_Mod_outputsAndResult.2.1 1 = .ok (.istore_n 1, 1) := by decide +kernel
theorem d_Mod_outputsAndResult_2 : decode m_Mod_outputsAndResult.2.1 2 = .ok (.iload_n 1, 1) := by decide +kernel
theorem d_Mod_outputsAndResult_3 : decode m_Mod_outputsAndResult.2.1 3 = .ok (.aload_n 0, 1) := by decide +kernel
theorem d_Mod_outputsAndResult_4 : decode m_Mod_outputsAndResult.2.1 4 = .ok (.getfield 171, 3) := by decide +kernel
theorem d_Mod_outputsAndResult_7 : decode m_Mod_outputsAndResult.2.1 7 = .ok (.if_icmp .ge 34, 3) := by decide +kernel
theorem d_Mod_outputsAndResult_10 : decode m_Mod_outputsAndResult.2.1 10 = .ok (.aload_n 0, 1) := by decide +kernel
theorem d_Mod_outputsAndResult_11 : decode m_Mod_outputsAndResult.2.1 11 = .ok (.aload_n 0, 1) := by decide +kernel
theorem d_Mod_outputsAndResult_12 : decode m_Mod_outputsAndResult.2.1 12 = .ok (.getfield 67, 3) := by decide +kernel
theorem d_Mod_outputsAndResult_15 : decode m_Mod_outputsAndResult.2.1 15 = .ok (.iconst 2, 1) := by decide +kernel
theorem d_Mod_outputsAndResult_16 : decode m_Mod_outputsAndResult.2.1 16 = .ok (.iload_n 1, 1) := by decide +kernel
theorem d_Mod_outputsAndResult_17 : decode m_Mod_outputsAndResult.2.1 17 = .ok (.imul, 1) := by decide +kernel
theorem d_Mod_outputsAndResult_18 : decode m_Mod_outputsAndResult.2.1 18 = .ok (.iaload, 1) := by decide +kernel
theorem d_Mod_outputsAndResult_19 : decode m_Mod_outputsAndResult.2.1 19 = .ok (.aload_n 0, 1) := by decide +kernel
theorem d_Mod_outputsAndResult_20 : decode m_Mod_outputsAndResult.2.1 20 = .ok (.getfield 67, 3) := by decide +kernel
theorem d_Mod_outputsAndResult_23 : decode m_Mod_outputsAndResult.2.1 23 = .ok (.iconst 2, 1) := by decide +kernel
theorem d_Mod_outputsAndResult_24 : decode m_Mod_outputsAndResult.2.1 24 = .ok (.iload_n 1, 1) := by decide +kernel
theorem d_Mod_outputsAndResult_25 : decode m_Mod_outputsAndResult.2.1 25 = .ok (.imul, 1) := by decide +kernel
theorem d_Mod_outputsAndResult_26 : decode m_Mod_outputsAndResult.2.1 26 = .ok (.iconst 1, 1) := by decide +kernel
theorem d_Mod_outputsAndResult_27 : decode m_Mod_outputsAndResult.2.1 27 = .ok (.iadd, 1) := by decide +kernel
theorem d_Mod_outputsAndResult_28 : decode m_Mod_outputsAndResult.2.1 28 = .ok (.iaload, 1) := by decide +kernel
theorem d_Mod_outputsAndResult_29 : decode m_Mod_outputsAndResult.2.1 29 = .ok (.iconst 2, 1) := by decide +kernel
theorem d_Mod_outputsAndResult_30 : decode m_Mod_outputsAndResult.2.1 30 = .ok (.iload_n 1, 1) := by decide +kernel
theorem d_Mod_outputsAndResult_31 : decode m_Mod_outputsAndResult.2.1 31 = .ok (.iadd, 1) := by decide +kernel
theorem d_Mod_outputsAndResult_32 : decode m_Mod_outputsAndResult.2.1 32 = .ok (.invokevirtual 196, 3) := by decide +kernel
theorem d_Mod_outputsAndResult_35 : decode m_Mod_outputsAndResult.2.1 35 = .ok (.iinc 1 1, 3) := by decide +kernel
theorem d_Mod_outputsAndResult_38 : decode m_Mod_outputsAndResult.2.1 38 = .ok (.goto (-36), 3) := by decide +kernel
theorem d_Mod_outputsAndResult_41 : decode m_Mod_outputsAndResult.2.1 41 = .ok (.aload_n 0, 1) := by decide +kernel
theorem d_Mod_outputsAndResult_42 : decode m_Mod_outputsAndResult.2.1 42 = .ok (.bipush 18, 2) := by decide +kernel
theorem d_Mod_outputsAndResult_44 : decode m_Mod_outputsAndResult.2.1 44 = .ok (.iconst 2, 1) := by decide +kernel
theorem d_Mod_outputsAndResult_45 : decode m_Mod_outputsAndResult.2.1 45 = .ok (.aload_n 0, 1) := by decide +kernel
theorem d_Mod_outputsAndResult_46 : decode m_Mod_outputsAndResult.2.1 46 = .ok (.getfield 171, 3) := by decide +kernel
theorem d_Mod_outputsAndResult_49 : decode m_Mod_outputsAndResult.2.1 49 = .ok (.iconst 0, 1) := by decide +kernel
theorem d_Mod_outputsAndResult_50 : decode m_Mod_outputsAndResult.2.1 50 = .ok (.invokevirtual 121, 3) := by decide +kernel
theorem d_Mod_outputsAndResult_53 : decode m_Mod_outputsAndResult.2.1 53 = .ok (.return_, 1) := by decide +kernel
