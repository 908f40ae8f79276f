theorem d_TM_init_0 : decode m_TM_init.2.1 0 = .ok (.aload_n 0, 1) := by decide +kernel
theorem d_TM_init_1 : decode m_TM_init.2.1 1 = .ok (.invokespecial 1, 3) := by decide +kernel
theorem d_TM_init_4 : decode m_TM_init.2.1 4 = .ok (.aload_n 0, 1) := by decide +kernel
theorem d_TM_init_5 : decode m_TM_init.2.1 5 = .ok (.new 7, 3) := by decide +kernel
theorem d_TM_init_8 : decode m_TM_init.2.1 8 = .ok (.dup, 1) := by decide +kernel
theorem d_TM_init_9 : decode m_TM_init.2.1 9 = .ok (.invokespecial 9, 3) := by decide +kernel
theorem d_TM_init_12 : decode m_TM_init.2.1 12 = .ok (.putfield 10, 3) := by decide +kernel
theorem d_TM_init_15 : decode m_TM_init.2.1 15 = .ok (.aload_n 0, 1) := by decide +kernel
theorem d_TM_init_16 : decode m_TM_init.2.1 16 = .ok (.aload_n 0, 1) := by decide +kernel
theorem d_TM_init_17 : decode m_TM_init.2.1 17 = .ok (.getfield 10, 3) := by decide +kernel
theorem d_TM_init_20 : decode m_TM_init.2.1 20 = .ok (.getfield 16, 3) := by decide +kernel
theorem d_TM_init_23 : decode m_TM_init.2.1 23 = .ok (.putfield 20, 3) := by decide +kernel
theorem d_TM_init_26 : decode m_TM_init.2.1 26 = .ok (.aload_n 0, 1) := by decide +kernel
theorem d_TM_init_27 : decode m_TM_init.2.1 27 = .ok (.aload_n 0, 1) := by decide +kernel
theorem d_TM_init_28 : decode m_TM_init.2.1 28 = .ok (.getfield 10, 3) := by decide +kernel
theorem d_TM_init_31 : decode m_TM_init.2.1 31 = .ok (.getfield 21, 3) := by decide +kernel
theorem d_TM_init_34 : decode m_TM_init.2.1 34 = .ok (.putfield 25, 3) := by decide +kernel
theorem d_TM_init_37 : decode m_TM_init.2.1 37 = .ok (.aload_n 0, 1) := by decide +kernel
theorem d_TM_init_38 : decode m_TM_init.2.1 38 = .ok (.aload_n 0, 1) := by decide +kernel
theorem d_TM_init_39 : decode m_TM_init.2.1 39 = .ok (.getfield 10, 3) := by decide +kernel
theorem d_TM_init_42 : decode m_TM_init.2.1 42 = .ok (.getfield 26, 3) := by decide +kernel
theorem d_TM_init_45 : decode m_TM_init.2.1 45 = .ok (.putfield 30, 3) := by decide +kernel
theorem d_TM_init_48 : decode m_TM_init.2.1 48 = .ok (.aload_n 0, 1) := by decide +kernel
theorem d_TM_init_49 : decode m_TM_init.2.1 49 = .ok (.new 31, 3) := by decide +kernel
theorem d_TM_init_52 : decode m_TM_init.2.1 52 = .ok (.dup, 1) := by decide +kernel
theorem d_TM_init_53 : decode m_TM_init.2.1 53 = .ok (.iconst 4, 1) := by decide +kernel
theorem d_TM_init_54 : decode m_TM_init.2.1 54 = .ok (.invokespecial 33, 3) := by decide +kernel
theorem d_TM_init_57 : decode m_TM_init.2.1 57 = .ok (.putfield 36, 3) := by decide +kernel
theorem d_TM_init_60 : decode m_TM_init.2.1 60 = .ok (.aload_n 0, 1) := by decide +kernel
theorem d_TM_init_61 : decode m_TM_init.2.1 61 = .ok (.new 40, 3) := by decide +kernel
theorem d_TM_init_64 : decode m_TM_init.2.1 64 = .ok (.dup, 1) := by decide +kernel
theorem d_TM_init_65 : decode m_TM_init.2.1 65 = .ok (.invokespecial 42, 3) := by decide +kernel
theorem d_TM_init_68 : decode m_TM_init.2.1 68 = .ok (.putfield 43, 3) := by decide +kernel
theorem d_TM_init_71 : decode m_TM_init.2.1 71 = .ok (.return_, 1) := by decide +kernel
theorem d_TM_set_0 : decode m_TM_set.2.1 0 = .ok (.iload_n 1, 1) := by decide +kernel
theorem d_TM_set_1 : decode m_TM_set.2.1 1 = .ok (.iconst 4, 1) := by decide +kernel
theorem d_TM_set_2 : decode m_TM_set.2.1 2 = .ok (.invokestatic 69, 3) := by decide +kernel
theorem d_TM_set_5 : decode m_TM_set.2.1 5 = .ok (.ifCond .ne 5, 3) := by decide +kernel
theorem d_TM_set_8 : decode m_TM_set.2.1 8 = .ok (.iconst 0, 1) := by decide +kernel
theorem d_TM_set_9 : decode m_TM_set.2.1 9 = .ok (.ireturn, 1) := by decide +kernel
theorem d_TM_set_10 : decode m_TM_set.2.1 10 = .ok (.iload_n 2, 1) := by decide +kernel
theorem d_TM_set_11 : decode m_TM_set.2.1 11 = .ok (.ifCond .eq 15, 3) := by decide +kernel
theorem d_TM_set_14 : decode m_TM_set.2.1 14 = .ok (.aload_n 0, 1) := by decide +kernel
theorem d_TM_set_15 : decode m_TM_set.2.1 15 = .ok (.getfield 36, 3) := by decide +kernel
theorem d_TM_set_18 : decode m_TM_set.2.1 18 = .ok (.iload_n 1, 1) := by decide +kernel
theorem d_TM_set_19 : decode m_TM_set.2.1 19 = .ok (.lload_n 3, 1) := by decide +kernel
theorem d_TM_set_20 : decode m_TM_set.2.1 20 = .ok (.invokevirtual 73, 3) := by decide +kernel
theorem d_TM_set_23 : decode m_TM_set.2.1 23 = .ok (.goto 11, 3) := by decide +kernel
theorem d_TM_set_26 : decode m_TM_set.2.1 26 = .ok (.aload_n 0, 1) := by decide +kernel
theorem d_TM_set_27 : decode m_TM_set.2.1 27 = .ok (.getfield 36, 3) := by decide +kernel
theorem d_TM_set_30 : decode m_TM_set.2.1 30 = .ok (.iload_n 1, 1) := by decide +kernel
theorem d_TM_set_31 : decode m_TM_set.2.1 31 = .ok (.invokevirtual 77, 3) := by decide +kernel
theorem d_TM_set_34 : decode m_TM_set.2.1 34 = .ok (.iconst 1, 1) := by decide +kernel
theorem d_TM_set_35 : decode m_TM_set.2.1 35 = .ok (.ireturn, 1) := by decide +kernel
theorem d_TM_isIndex_0 : decode m_TM_isIndex.2.1 0 = .ok (.iload_n 0, 1) := by decide +kernel
theorem d_TM_isIndex_1 : decode m_TM_isIndex.2.1 1 = .ok (.ifCond .lt 12, 3) := by decide +kernel
theorem d_TM_isIndex_4 : decode m_TM_isIndex.2.1 4 = .ok (.iload_n 0, 1) := by decide +kernel
theorem d_TM_isIndex_5 : decode m_TM_isIndex.2.1 5 = .ok (.iload_n 1, 1) := by decide +kernel
theorem d_TM_isIndex_6 : decode m_TM_isIndex.2.1 6 = .ok (.if_icmp .ge 7, 3) := by decide +kernel
theorem d_TM_isIndex_9 : decode m_TM_isIndex.2.1 9 = .ok (.iconst 1, 1) := by decide +kernel
theorem d_TM_isIndex_10 : decode m_TM_isIndex.2.1 10 = .ok (.goto 4, 3) := by decide +kernel
theorem d_TM_isIndex_13 : decode m_TM_isIndex.2.1 13 = .ok (.iconst 0, 1) := by decide +kernel
theorem d_TM_isIndex_14 : decode m_TM_isIndex.2.1 14 = .ok (.ireturn, 1) := by decide +kernel
theorem d_TM_count_0 : decode m_TM_count.2.1 0 = .ok (.aload_n 0, 1) := by decide +kernel
theorem d_TM_count_1 : decode m_TM_count.2.1 1 = .ok (.getfield 20, 3) := by decide +kernel
theorem d_TM_count_4 : decode m_TM_count.2.1 4 = .ok (.iload_n 1, 1) := by decide +kernel
theorem d_TM_count_5 : decode m_TM_count.2.1 5 = .ok (.invokevirtual 97, 3) := by decide +kernel
theorem d_TM_count_8 : decode m_TM_count.2.1 8 = .ok (.ifCond .eq 18, 3) := by decide +kernel
theorem d_TM_count_11 : decode m_TM_count.2.1 11 = .ok (.aload_n 0, 1) := by decide +kernel
theorem d_TM_count_12 : decode m_TM_count.2.1 12 = .ok (.getfield 20, 3) := by decide +kernel
theorem d_TM_count_15 : decode m_TM_count.2.1 15 = .ok (.getfield 101, 3) := by decide +kernel
theorem d_TM_count_18 : decode m_TM_count.2.1 18 = .ok (.iload_n 1, 1) := by decide +kernel
theorem d_TM_count_19 : decode m_TM_count.2.1 19 = .ok (.aaload, 1) := by decide +kernel
theorem d_TM_count_20 : decode m_TM_count.2.1 20 = .ok (.getfield 105, 3) := by decide +kernel
theorem d_TM_count_23 : decode m_TM_count.2.1 23 = .ok (.goto 4, 3) := by decide +kernel
theorem d_TM_count_26 : decode m_TM_count.2.1 26 = .ok (.iconst (-1), 1) := by decide +kernel
theorem d_TM_count_27 : decode m_TM_count.2.1 27 = .ok (.ireturn, 1) := by decide +kernel
theorem d_TM_wipe_0 : decode m_TM_wipe.2.1 0 = .ok (.aload_n 0, 1) := by decide +kernel
theorem d_TM_wipe_1 : decode m_TM_wipe.2.1 1 = .ok (.getfield 25, 3) := by decide +kernel
theorem d_TM_wipe_4 : decode m_TM_wipe.2.1 4 = .ok (.iconst 0, 1) := by decide +kernel
theorem d_TM_wipe_5 : decode m_TM_wipe.2.1 5 = .ok (.putfield 148, 3) := by decide +kernel
theorem d_TM_wipe_8 : decode m_TM_wipe.2.1 8 = .ok (.return_, 1) := by decide +kernel
theorem d_TM_ask_0 : decode m_TM_ask.2.1 0 = .ok (.aload_n 0, 1) := by decide +kernel
theorem d_TM_ask_1 : decode m_TM_ask.2.1 1 = .ok (.getfield 20, 3) := by decide +kernel
theorem d_TM_ask_4 : decode m_TM_ask.2.1 4 = .ok (.iload_n 1, 1) := by decide +kernel
theorem d_TM_ask_5 : decode m_TM_ask.2.1 5 = .ok (.invokevirtual 97, 3) := by decide +kernel
theorem d_TM_ask_8 : decode m_TM_ask.2.1 8 = .ok (.ifCond .eq 19, 3) := by decide +kernel
theorem d_TM_ask_11 : decode m_TM_ask.2.1 11 = .ok (.iload_n 2, 1) := by decide +kernel
theorem d_TM_ask_12 : decode m_TM_ask.2.1 12 = .ok (.iconst (-1), 1) := by decide +kernel
theorem d_TM_ask_13 : decode m_TM_ask.2.1 13 = .ok (.if_icmp .eq 16, 3) := by decide +kernel
theorem d_TM_ask_16 : decode m_TM_ask.2.1 16 = .ok (.aload_n 0, 1) := by decide +kernel
theorem d_TM_ask_17 : decode m_TM_ask.2.1 17 = .ok (.getfield 20, 3) := by decide +kernel
theorem d_TM_ask_20 : decode m_TM_ask.2.1 20 = .ok (.iload_n 2, 1) := by decide +kernel
theorem d_TM_ask_21 : decode m_TM_ask.2.1 21 = .ok (.invokevirtual 97, 3) := by decide +kernel
theorem d_TM_ask_24 : decode m_TM_ask.2.1 24 = .ok (.ifCond .ne 5, 3) := by decide +kernel
theorem d_TM_ask_27 : decode m_TM_ask.2.1 27 = .ok (.iconst 0, 1) := by decide +kernel
theorem d_TM_ask_28 : decode m_TM_ask.2.1 28 = .ok (.ireturn, 1) := by decide +kernel
theorem d_TM_ask_29 : decode m_TM_ask.2.1 29 = .ok (.aload_n 0, 1) := by decide +kernel
theorem d_TM_ask_30 : decode m_TM_ask.2.1 30 = .ok (.getfield 43, 3) := by decide +kernel
theorem d_TM_ask_33 : decode m_TM_ask.2.1 33 = .ok (.iload_n 1, 1) := by decide +kernel
theorem d_TM_ask_34 : decode m_TM_ask.2.1 34 = .ok (.iload_n 2, 1) := by decide +kernel
theorem d_TM_ask_35 : decode m_TM_ask.2.1 35 = .ok (.invokevirtual 194, 3) := by decide +kernel
theorem d_TM_ask_38 : decode m_TM_ask.2.1 38 = .ok (.iconst 1, 1) := by decide +kernel
theorem d_TM_ask_39 : decode m_TM_ask.2.1 39 = .ok (.ireturn, 1) := by decide +kernel
theorem d_TM_output_0 : decode m_TM_output.2.1 0 = .ok (.aload_n 0, 1) := by decide +kernel
theorem d_TM_output_1 : decode m_TM_output.2.1 1 = .ok (.getfield 43, 3) := by decide +kernel
theorem d_TM_output_4 : decode m_TM_output.2.1 4 = .ok (.getfield 197, 3) := by decide +kernel
theorem d_TM_output_7 : decode m_TM_output.2.1 7 = .ok (.iconst 4, 1) := by decide +kernel
theorem d_TM_output_8 : decode m_TM_output.2.1 8 = .ok (.if_icmp .eq 12, 3) := by decide +kernel
theorem d_TM_output_11 : decode m_TM_output.2.1 11 = .ok (.aload_n 0, 1) := by decide +kernel
theorem d_TM_output_12 : decode m_TM_output.2.1 12 = .ok (.iload_n 1, 1) := by decide +kernel
theorem d_TM_output_13 : decode m_TM_output.2.1 13 = .ok (.iload_n 2, 1) := by decide +kernel
theorem d_TM_output_14 : decode m_TM_output.2.1 14 = .ok (.invokevirtual 200, 3) := by decide +kernel
theorem d_TM_output_17 : decode m_TM_output.2.1 17 = .ok (.ifCond .ne 5, 3) := by decide +kernel
theorem d_TM_output_20 : decode m_TM_output.2.1 20 = .ok (.iconst 0, 1) := by decide +kernel
theorem d_TM_output_21 : decode m_TM_output.2.1 21 = .ok (.ireturn, 1) := by decide +kernel
theorem d_TM_output_22 : decode m_TM_output.2.1 22 = .ok (.aload_n 0, 1) := by decide +kernel
theorem d_TM_output_23 : decode m_TM_output.2.1 23 = .ok (.getfield 43, 3) := by decide +kernel
theorem d_TM_output_26 : decode m_TM_output.2.1 26 = .ok (.iload_n 1, 1) := by decide +kernel
theorem d_TM_output_27 : decode m_TM_output.2.1 27 = .ok (.iload_n 2, 1) := by decide +kernel
theorem d_TM_output_28 : decode m_TM_output.2.1 28 = .ok (.invokevirtual 203, 3) := by decide +kernel
theorem d_TM_output_31 : decode m_TM_output.2.1 31 = .ok (.iconst 1, 1) := by decide +kernel
theorem d_TM_output_32 : decode m_TM_output.2.1 32 = .ok (.ireturn, 1) := by decide +kernel
theorem d_TM_canAskFor_0 : decode m_TM_canAskFor.2.1 0 = .ok (.aload_n 0, 1) := by decide +kernel
theorem d_TM_canAskFor_1 : decode m_TM_canAskFor.2.1 1 = .ok (.getfield 43, 3) := by decide +kernel
theorem d_TM_canAskFor_4 : decode m_TM_canAskFor.2.1 4 = .ok (.iload_n 1, 1) := by decide +kernel
theorem d_TM_canAskFor_5 : decode m_TM_canAskFor.2.1 5 = .ok (.invokevirtual 236, 3) := by decide +kernel
theorem d_TM_canAskFor_8 : decode m_TM_canAskFor.2.1 8 = .ok (.ifCond .ne 5, 3) := by decide +kernel
theorem d_TM_canAskFor_11 : decode m_TM_canAskFor.2.1 11 = .ok (.iconst 0, 1) := by decide +kernel
theorem d_TM_canAskFor_12 : decode m_TM_canAskFor.2.1 12 = .ok (.ireturn, 1) := by decide +kernel
theorem d_TM_canAskFor_13 : decode m_TM_canAskFor.2.1 13 = .ok (.iload_n 2, 1) := by decide +kernel
theorem d_TM_canAskFor_14 : decode m_TM_canAskFor.2.1 14 = .ok (.iconst (-1), 1) := by decide +kernel
theorem d_TM_canAskFor_15 : decode m_TM_canAskFor.2.1 15 = .ok (.if_icmp .eq 23, 3) := by decide +kernel
theorem d_TM_canAskFor_18 : decode m_TM_canAskFor.2.1 18 = .ok (.aload_n 0, 1) := by decide +kernel
theorem d_TM_canAskFor_19 : decode m_TM_canAskFor.2.1 19 = .ok (.getfield 20, 3) := by decide +kernel
theorem d_TM_canAskFor_22 : decode m_TM_canAskFor.2.1 22 = .ok (.aload_n 0, 1) := by decide +kernel
theorem d_TM_canAskFor_23 : decode m_TM_canAskFor.2.1 23 = .ok (.getfield 43, 3) := by decide +kernel
theorem d_TM_canAskFor_26 : decode m_TM_canAskFor.2.1 26 = .ok (.getfield 239, 3) := by decide +kernel
theorem d_TM_canAskFor_29 : decode m_TM_canAskFor.2.1 29 = .ok (.iload_n 1, 1) := by decide +kernel
theorem d_TM_canAskFor_30 : decode m_TM_canAskFor.2.1 30 = .ok (.iaload, 1) := by decide +kernel
theorem d_TM_canAskFor_31 : decode m_TM_canAskFor.2.1 31 = .ok (.iload_n 2, 1) := by decide +kernel
theorem d_TM_canAskFor_32 : decode m_TM_canAskFor.2.1 32 = .ok (.invokevirtual 223, 3) := by decide +kernel
theorem d_TM_canAskFor_35 : decode m_TM_canAskFor.2.1 35 = .ok (.ifCond .eq 7, 3) := by decide +kernel
theorem d_TM_canAskFor_38 : decode m_TM_canAskFor.2.1 38 = .ok (.iconst 1, 1) := by decide +kernel
theorem d_TM_canAskFor_39 : decode m_TM_canAskFor.2.1 39 = .ok (.goto 4, 3) := by decide +kernel
theorem d_TM_canAskFor_42 : decode m_TM_canAskFor.2.1 42 = .ok (.iconst 0, 1) := by decide +kernel
theorem d_TM_canAskFor_43 : decode m_TM_canAskFor.2.1 43 = .ok (.ireturn, 1) := by decide +kernel
theorem d_TM_condition_0 : decode m_TM_condition.2.1 0 = .ok (.aload_n 0, 1) := by decide +kernel
theorem d_TM_condition_1 : decode m_TM_condition.2.1 1 = .ok (.getfield 43, 3) := by decide +kernel
theorem d_TM_condition_4 : decode m_TM_condition.2.1 4 = .ok (.getfield 206, 3) := by decide +kernel
theorem d_TM_condition_7 : decode m_TM_condition.2.1 7 = .ok (.iconst 4, 1) := by decide +kernel
theorem d_TM_condition_8 : decode m_TM_condition.2.1 8 = .ok (.if_icmp .eq 12, 3) := by decide +kernel
theorem d_TM_condition_11 : decode m_TM_condition.2.1 11 = .ok (.aload_n 0, 1) := by decide +kernel
theorem d_TM_condition_12 : decode m_TM_condition.2.1 12 = .ok (.iload_n 1, 1) := by decide +kernel
theorem d_TM_condition_13 : decode m_TM_condition.2.1 13 = .ok (.iload_n 2, 1) := by decide +kernel
theorem d_TM_condition_14 : decode m_TM_condition.2.1 14 = .ok (.invokevirtual 200, 3) := by decide +kernel
theorem d_TM_condition_17 : decode m_TM_condition.2.1 17 = .ok (.ifCond .ne 5, 3) := by decide +kernel
theorem d_TM_condition_20 : decode m_TM_condition.2.1 20 = .ok (.iconst 0, 1) := by decide +kernel
theorem d_TM_condition_21 : decode m_TM_condition.2.1 21 = .ok (.ireturn, 1) := by decide +kernel
theorem d_TM_condition_22 : decode m_TM_condition.2.1 22 = .ok (.iload_n 3, 1) := by decide +kernel
theorem d_TM_condition_23 : decode m_TM_condition.2.1 23 = .ok (.bipush 8, 2) := by decide +kernel
theorem d_TM_condition_25 : decode m_TM_condition.2.1 25 = .ok (.invokestatic 69, 3) := by decide +kernel
theorem d_TM_condition_28 : decode m_TM_condition.2.1 28 = .ok (.ifCond .ne 5, 3) := by decide +kernel
theorem d_TM_condition_31 : decode m_TM_condition.2.1 31 = .ok (.iconst 0, 1) := by decide +kernel
theorem d_TM_condition_32 : decode m_TM_condition.2.1 32 = .ok (.ireturn, 1) := by decide +kernel
theorem d_TM_condition_33 : decode m_TM_condition.2.1 33 = .ok (.aload_n 0, 1) := by decide +kernel
theorem d_TM_condition_34 : decode m_TM_condition.2.1 34 = .ok (.getfield 43, 3) := by decide +kernel
theorem d_TM_condition_37 : decode m_TM_condition.2.1 37 = .ok (.iload_n 1, 1) := by decide +kernel
theorem d_TM_condition_38 : decode m_TM_condition.2.1 38 = .ok (.iload_n 2, 1) := by decide +kernel
theorem d_TM_condition_39 : decode m_TM_condition.2.1 39 = .ok (.iload_n 3, 1) := by decide +kernel
theorem d_TM_condition_40 : decode m_TM_condition.2.1 40 = .ok (.iload 4, 2) := by decide +kernel
theorem d_TM_condition_42 : decode m_TM_condition.2.1 42 = .ok (.invokevirtual 209, 3) := by decide +kernel
theorem d_TM_condition_45 : decode m_TM_condition.2.1 45 = .ok (.iconst 1, 1) := by decide +kernel
theorem d_TM_condition_46 : decode m_TM_condition.2.1 46 = .ok (.ireturn, 1) := by decide +kernel
theorem d_TM_join_0 : decode m_TM_join.2.1 0 = .ok (.aload_n 0, 1) := by decide +kernel
theorem d_TM_join_1 : decode m_TM_join.2.1 1 = .ok (.iconst 0, 1) := by decide +kernel
theorem d_TM_join_2 : decode m_TM_join.2.1 2 = .ok (.iload_n 1, 1) := by decide +kernel
theorem d_TM_join_3 : decode m_TM_join.2.1 3 = .ok (.invokevirtual 200, 3) := by decide +kernel
theorem d_TM_join_6 : decode m_TM_join.2.1 6 = .ok (.ifCond .eq 12, 3) := by decide +kernel
theorem d_TM_join_9 : decode m_TM_join.2.1 9 = .ok (.aload_n 0, 1) := by decide +kernel
theorem d_TM_join_10 : decode m_TM_join.2.1 10 = .ok (.iconst 1, 1) := by decide +kernel
theorem d_TM_join_11 : decode m_TM_join.2.1 11 = .ok (.iload_n 2, 1) := by decide +kernel
theorem d_TM_join_12 : decode m_TM_join.2.1 12 = .ok (.invokevirtual 200, 3) := by decide +kernel
theorem d_TM_join_15 : decode m_TM_join.2.1 15 = .ok (.ifCond .ne 5, 3) := by decide +kernel
theorem d_TM_join_18 : decode m_TM_join.2.1 18 = .ok (.iconst 0, 1) := by decide +kernel
theorem d_TM_join_19 : decode m_TM_join.2.1 19 = .ok (.ireturn, 1) := by decide +kernel
theorem d_TM_join_20 : decode m_TM_join.2.1 20 = .ok (.aload_n 0, 1) := by decide +kernel
theorem d_TM_join_21 : decode m_TM_join.2.1 21 = .ok (.getfield 43, 3) := by decide +kernel
theorem d_TM_join_24 : decode m_TM_join.2.1 24 = .ok (.iload_n 1, 1) := by decide +kernel
theorem d_TM_join_25 : decode m_TM_join.2.1 25 = .ok (.iload_n 2, 1) := by decide +kernel
theorem d_TM_join_26 : decode m_TM_join.2.1 26 = .ok (.invokevirtual 212, 3) := by decide +kernel
theorem d_TM_join_29 : decode m_TM_join.2.1 29 = .ok (.iconst 1, 1) := by decide +kernel
theorem d_TM_join_30 : decode m_TM_join.2.1 30 = .ok (.ireturn, 1) := by decide +kernel
theorem d_TM_table_0 : decode m_TM_table.2.1 0 = .ok (.iload_n 1, 1) := by decide +kernel
theorem d_TM_table_1 : decode m_TM_table.2.1 1 = .ok (.iconst 1, 1) := by decide +kernel
theorem d_TM_table_2 : decode m_TM_table.2.1 2 = .ok (.if_icmp .lt 8, 3) := by decide +kernel
theorem d_TM_table_5 : decode m_TM_table.2.1 5 = .ok (.iload_n 1, 1) := by decide +kernel
theorem d_TM_table_6 : decode m_TM_table.2.1 6 = .ok (.iconst 4, 1) := by decide +kernel
theorem d_TM_table_7 : decode m_TM_table.2.1 7 = .ok (.if_icmp .le 13, 3) := by decide +kernel
theorem d_TM_table_10 : decode m_TM_table.2.1 10 = .ok (.new 47, 3) := by decide +kernel
theorem d_TM_table_13 : decode m_TM_table.2.1 13 = .ok (.dup, 1) := by decide +kernel
theorem d_TM_table_14 : decode m_TM_table.2.1 14 = .ok (.ldc 49, 2) := by decide +kernel
theorem d_TM_table_16 : decode m_TM_table.2.1 16 = .ok (.invokespecial 51, 3) := by decide +kernel
theorem d_TM_table_19 : decode m_TM_table.2.1 19 = .ok (.athrow, 1) := by decide +kernel
theorem d_TM_table_20 : decode m_TM_table.2.1 20 = .ok (.aload_n 0, 1) := by decide +kernel
theorem d_TM_table_21 : decode m_TM_table.2.1 21 = .ok (.getfield 20, 3) := by decide +kernel
theorem d_TM_table_24 : decode m_TM_table.2.1 24 = .ok (.getfield 54, 3) := by decide +kernel
theorem d_TM_table_27 : decode m_TM_table.2.1 27 = .ok (.iconst 3, 1) := by decide +kernel
theorem d_TM_table_28 : decode m_TM_table.2.1 28 = .ok (.if_icmp .ne 13, 3) := by decide +kernel
theorem d_TM_table_31 : decode m_TM_table.2.1 31 = .ok (.new 60, 3) := by decide +kernel
theorem d_TM_table_34 : decode m_TM_table.2.1 34 = .ok (.dup, 1) := by decide +kernel
theorem d_TM_table_35 : decode m_TM_table.2.1 35 = .ok (.ldc 62, 2) := by decide +kernel
theorem d_TM_table_37 : decode m_TM_table.2.1 37 = .ok (.invokespecial 64, 3) := by decide +kernel
theorem d_TM_table_40 : decode m_TM_table.2.1 40 = .ok (.athrow, 1) := by decide +kernel
theorem d_TM_table_41 : decode m_TM_table.2.1 41 = .ok (.aload_n 0, 1) := by decide +kernel
theorem d_TM_table_42 : decode m_TM_table.2.1 42 = .ok (.getfield 20, 3) := by decide +kernel
theorem d_TM_table_45 : decode m_TM_table.2.1 45 = .ok (.iload_n 1, 1) := by decide +kernel
theorem d_TM_table_46 : decode m_TM_table.2.1 46 = .ok (.invokevirtual 65, 3) := by decide +kernel
theorem d_TM_table_49 : decode m_TM_table.2.1 49 = .ok (.ireturn, 1) := by decide +kernel
theorem d_TM_insert_0 : decode m_TM_insert.2.1 0 = .ok (.aload_n 0, 1) := by decide +kernel
theorem d_TM_insert_1 : decode m_TM_insert.2.1 1 = .ok (.iload_n 1, 1) := by decide +kernel
theorem d_TM_insert_2 : decode m_TM_insert.2.1 2 = .ok (.invokevirtual 80, 3) := by decide +kernel
theorem d_TM_insert_5 : decode m_TM_insert.2.1 5 = .ok (.aload_n 0, 1) := by decide +kernel
theorem d_TM_insert_6 : decode m_TM_insert.2.1 6 = .ok (.getfield 20, 3) := by decide +kernel
theorem d_TM_insert_9 : decode m_TM_insert.2.1 9 = .ok (.invokevirtual 83, 3) := by decide +kernel
theorem d_TM_insert_12 : decode m_TM_insert.2.1 12 = .ok (.ifCond .eq 13, 3) := by decide +kernel
theorem d_TM_insert_15 : decode m_TM_insert.2.1 15 = .ok (.new 60, 3) := by decide +kernel
theorem d_TM_insert_18 : decode m_TM_insert.2.1 18 = .ok (.dup, 1) := by decide +kernel
theorem d_TM_insert_19 : decode m_TM_insert.2.1 19 = .ok (.ldc 87, 2) := by decide +kernel
theorem d_TM_insert_21 : decode m_TM_insert.2.1 21 = .ok (.invokespecial 64, 3) := by decide +kernel
theorem d_TM_insert_24 : decode m_TM_insert.2.1 24 = .ok (.athrow, 1) := by decide +kernel
theorem d_TM_insert_25 : decode m_TM_insert.2.1 25 = .ok (.aload_n 0, 1) := by decide +kernel
theorem d_TM_insert_26 : decode m_TM_insert.2.1 26 = .ok (.getfield 20, 3) := by decide +kernel
theorem d_TM_insert_29 : decode m_TM_insert.2.1 29 = .ok (.iload_n 1, 1) := by decide +kernel
theorem d_TM_insert_30 : decode m_TM_insert.2.1 30 = .ok (.lload_n 2, 1) := by decide +kernel
theorem d_TM_insert_31 : decode m_TM_insert.2.1 31 = .ok (.aload_n 0, 1) := by decide +kernel
theorem d_TM_insert_32 : decode m_TM_insert.2.1 32 = .ok (.getfield 36, 3) := by decide +kernel
theorem d_TM_insert_35 : decode m_TM_insert.2.1 35 = .ok (.iconst 0, 1) := by decide +kernel
theorem d_TM_insert_36 : decode m_TM_insert.2.1 36 = .ok (.invokevirtual 89, 3) := by decide +kernel
theorem d_TM_insert_39 : decode m_TM_insert.2.1 39 = .ok (.ireturn, 1) := by decide +kernel
theorem d_TM_requireTable_0 : decode m_TM_requireTable.2.1 0 = .ok (.aload_n 0, 1) := by decide +kernel
theorem d_TM_requireTable_1 : decode m_TM_requireTable.2.1 1 = .ok (.getfield 20, 3) := by decide +kernel
theorem d_TM_requireTable_4 : decode m_TM_requireTable.2.1 4 = .ok (.iload_n 1, 1) := by decide +kernel
theorem d_TM_requireTable_5 : decode m_TM_requireTable.2.1 5 = .ok (.invokevirtual 97, 3) := by decide +kernel
theorem d_TM_requireTable_8 : decode m_TM_requireTable.2.1 8 = .ok (.ifCond .ne 13, 3) := by decide +kernel
theorem d_TM_requireTable_11 : decode m_TM_requireTable.2.1 11 = .ok (.new 47, 3) := by decide +kernel
theorem d_TM_requireTable_14 : decode m_TM_requireTable.2.1 14 = .ok (.dup, 1) := by decide +kernel
theorem d_TM_requireTable_15 : decode m_TM_requireTable.2.1 15 = .ok (.ldc 221, 2) := by decide +kernel
theorem d_TM_requireTable_17 : decode m_TM_requireTable.2.1 17 = .ok (.invokespecial 51, 3) := by decide +kernel
theorem d_TM_requireTable_20 : decode m_TM_requireTable.2.1 20 = .ok (.athrow, 1) := by decide +kernel
theorem d_TM_requireTable_21 : decode m_TM_requireTable.2.1 21 = .ok (.return_, 1) := by decide +kernel
theorem d_TM_delete_0 : decode m_TM_delete.2.1 0 = .ok (.aload_n 0, 1) := by decide +kernel
theorem d_TM_delete_1 : decode m_TM_delete.2.1 1 = .ok (.iload_n 1, 1) := by decide +kernel
theorem d_TM_delete_2 : decode m_TM_delete.2.1 2 = .ok (.invokevirtual 80, 3) := by decide +kernel
theorem d_TM_delete_5 : decode m_TM_delete.2.1 5 = .ok (.aload_n 0, 1) := by decide +kernel
theorem d_TM_delete_6 : decode m_TM_delete.2.1 6 = .ok (.getfield 20, 3) := by decide +kernel
theorem d_TM_delete_9 : decode m_TM_delete.2.1 9 = .ok (.iload_n 1, 1) := by decide +kernel
theorem d_TM_delete_10 : decode m_TM_delete.2.1 10 = .ok (.lload_n 2, 1) := by decide +kernel
theorem d_TM_delete_11 : decode m_TM_delete.2.1 11 = .ok (.invokevirtual 93, 3) := by decide +kernel
theorem d_TM_delete_14 : decode m_TM_delete.2.1 14 = .ok (.ireturn, 1) := by decide +kernel
theorem d_TM_next_0 : decode m_TM_next.2.1 0 = .ok (.aload_n 0, 1) := by decide +kernel
theorem d_TM_next_1 : decode m_TM_next.2.1 1 = .ok (.iload_n 1, 1) := by decide +kernel
theorem d_TM_next_2 : decode m_TM_next.2.1 2 = .ok (.invokevirtual 80, 3) := by decide +kernel
theorem d_TM_next_5 : decode m_TM_next.2.1 5 = .ok (.aload_n 0, 1) := by decide +kernel
theorem d_TM_next_6 : decode m_TM_next.2.1 6 = .ok (.getfield 20, 3) := by decide +kernel
theorem d_TM_next_9 : decode m_TM_next.2.1 9 = .ok (.iload_n 1, 1) := by decide +kernel
theorem d_TM_next_10 : decode m_TM_next.2.1 10 = .ok (.lload_n 2, 1) := by decide +kernel
theorem d_TM_next_11 : decode m_TM_next.2.1 11 = .ok (.iload 4, 2) := by decide +kernel
theorem d_TM_next_13 : decode m_TM_next.2.1 13 = .ok (.invokevirtual 110, 3) := by decide +kernel
theorem d_TM_next_16 : decode m_TM_next.2.1 16 = .ok (.istore 5, 2) := by decide +kernel
theorem d_TM_next_18 : decode m_TM_next.2.1 18 = .ok (.aload_n 0, 1) := by decide +kernel
theorem d_TM_next_19 : decode m_TM_next.2.1 19 = .ok (.getfield 20, 3) := by decide +kernel
theorem d_TM_next_22 : decode m_TM_next.2.1 22 = .ok (.iload_n 1, 1) := by decide +kernel
theorem d_TM_next_23 : decode m_TM_next.2.1 23 = .ok (.iload 5, 2) := by decide +kernel
theorem d_TM_next_25 : decode m_TM_next.2.1 25 = .ok (.invokevirtual 114, 3) := by decide +kernel
theorem d_TM_next_28 : decode m_TM_next.2.1 28 = .ok (.ifCond .ne 13, 3) := by decide +kernel
theorem d_TM_next_31 : decode m_TM_next.2.1 31 = .ok (.new 117, 3) := by decide +kernel
theorem d_TM_next_34 : decode m_TM_next.2.1 34 = .ok (.dup, 1) := by decide +kernel
theorem d_TM_next_35 : decode m_TM_next.2.1 35 = .ok (.ldc 119, 2) := by decide +kernel
theorem d_TM_next_37 : decode m_TM_next.2.1 37 = .ok (.invokespecial 121, 3) := by decide +kernel
theorem d_TM_next_40 : decode m_TM_next.2.1 40 = .ok (.athrow, 1) := by decide +kernel
theorem d_TM_next_41 : decode m_TM_next.2.1 41 = .ok (.aload_n 0, 1) := by decide +kernel
theorem d_TM_next_42 : decode m_TM_next.2.1 42 = .ok (.getfield 20, 3) := by decide +kernel
theorem d_TM_next_45 : decode m_TM_next.2.1 45 = .ok (.iload_n 1, 1) := by decide +kernel
theorem d_TM_next_46 : decode m_TM_next.2.1 46 = .ok (.iload 5, 2) := by decide +kernel
theorem d_TM_next_48 : decode m_TM_next.2.1 48 = .ok (.invokevirtual 122, 3) := by decide +kernel
theorem d_TM_next_51 : decode m_TM_next.2.1 51 = .ok (.lreturn, 1) := by decide +kernel
theorem d_TM_value_0 : decode m_TM_value.2.1 0 = .ok (.aload_n 0, 1) := by decide +kernel
theorem d_TM_value_1 : decode m_TM_value.2.1 1 = .ok (.getfield 20, 3) := by decide +kernel
theorem d_TM_value_4 : decode m_TM_value.2.1 4 = .ok (.getfield 126, 3) := by decide +kernel
theorem d_TM_value_7 : decode m_TM_value.2.1 7 = .ok (.aload_n 0, 1) := by decide +kernel
theorem d_TM_value_8 : decode m_TM_value.2.1 8 = .ok (.iload_n 1, 1) := by decide +kernel
theorem d_TM_value_9 : decode m_TM_value.2.1 9 = .ok (.lload_n 2, 1) := by decide +kernel
theorem d_TM_value_10 : decode m_TM_value.2.1 10 = .ok (.iload 4, 2) := by decide +kernel
theorem d_TM_value_12 : decode m_TM_value.2.1 12 = .ok (.invokevirtual 129, 3) := by decide +kernel
theorem d_TM_value_15 : decode m_TM_value.2.1 15 = .ok (.invokevirtual 133, 3) := by decide +kernel
theorem d_TM_value_18 : decode m_TM_value.2.1 18 = .ok (.lreturn, 1) := by decide +kernel
theorem d_TM_requireCell_0 : decode m_TM_requireCell.2.1 0 = .ok (.aload_n 0, 1) := by decide +kernel
theorem d_TM_requireCell_1 : decode m_TM_requireCell.2.1 1 = .ok (.getfield 20, 3) := by decide +kernel
theorem d_TM_requireCell_4 : decode m_TM_requireCell.2.1 4 = .ok (.iload_n 1, 1) := by decide +kernel
theorem d_TM_requireCell_5 : decode m_TM_requireCell.2.1 5 = .ok (.iload 4, 2) := by decide +kernel
theorem d_TM_requireCell_7 : decode m_TM_requireCell.2.1 7 = .ok (.invokevirtual 223, 3) := by decide +kernel
theorem d_TM_requireCell_10 : decode m_TM_requireCell.2.1 10 = .ok (.ifCond .ne 13, 3) := by decide +kernel
theorem d_TM_requireCell_13 : decode m_TM_requireCell.2.1 13 = .ok (.new 47, 3) := by decide +kernel
theorem d_TM_requireCell_16 : decode m_TM_requireCell.2.1 16 = .ok (.dup, 1) := by decide +kernel
theorem d_TM_requireCell_17 : decode m_TM_requireCell.2.1 17 = .ok (.ldc 226, 2) := by decide +kernel
theorem d_TM_requireCell_19 : decode m_TM_requireCell.2.1 19 = .ok (.invokespecial 51, 3) := by decide +kernel
theorem d_TM_requireCell_22 : decode m_TM_requireCell.2.1 22 = .ok (.athrow, 1) := by decide +kernel
theorem d_TM_requireCell_23 : decode m_TM_requireCell.2.1 23 = .ok (.aload_n 0, 1) := by decide +kernel
theorem d_TM_requireCell_24 : decode m_TM_requireCell.2.1 24 = .ok (.getfield 20, 3) := by decide +kernel
theorem d_TM_requireCell_27 : decode m_TM_requireCell.2.1 27 = .ok (.iload_n 1, 1) := by decide +kernel
theorem d_TM_requireCell_28 : decode m_TM_requireCell.2.1 28 = .ok (.lload_n 2, 1) := by decide +kernel
theorem d_TM_requireCell_29 : decode m_TM_requireCell.2.1 29 = .ok (.invokevirtual 228, 3) := by decide +kernel
theorem d_TM_requireCell_32 : decode m_TM_requireCell.2.1 32 = .ok (.istore 5, 2) := by decide +kernel
theorem d_TM_requireCell_34 : decode m_TM_requireCell.2.1 34 = .ok (.iload 5, 2) := by decide +kernel
theorem d_TM_requireCell_36 : decode m_TM_requireCell.2.1 36 = .ok (.iconst (-1), 1) := by decide +kernel
theorem d_TM_requireCell_37 : decode m_TM_requireCell.2.1 37 = .ok (.if_icmp .ne 13, 3) := by decide +kernel
theorem d_TM_requireCell_40 : decode m_TM_requireCell.2.1 40 = .ok (.new 117, 3) := by decide +kernel
theorem d_TM_requireCell_43 : decode m_TM_requireCell.2.1 43 = .ok (.dup, 1) := by decide +kernel
theorem d_TM_requireCell_44 : decode m_TM_requireCell.2.1 44 = .ok (.ldc 232, 2) := by decide +kernel
theorem d_TM_requireCell_46 : decode m_TM_requireCell.2.1 46 = .ok (.invokespecial 121, 3) := by decide +kernel
theorem d_TM_requireCell_49 : decode m_TM_requireCell.2.1 49 = .ok (.athrow, 1) := by decide +kernel
theorem d_TM_requireCell_50 : decode m_TM_requireCell.2.1 50 = .ok (.iload 5, 2) := by decide +kernel
theorem d_TM_requireCell_52 : decode m_TM_requireCell.2.1 52 = .ok (.iconst 4, 1) := by decide +kernel
theorem d_TM_requireCell_53 : decode m_TM_requireCell.2.1 53 = .ok (.imul, 1) := by decide +kernel
theorem d_TM_requireCell_54 : decode m_TM_requireCell.2.1 54 = .ok (.iload 4, 2) := by decide +kernel
theorem d_TM_requireCell_56 : decode m_TM_requireCell.2.1 56 = .ok (.iadd, 1) := by decide +kernel
theorem d_TM_requireCell_57 : decode m_TM_requireCell.2.1 57 = .ok (.ireturn, 1) := by decide +kernel
theorem d_TM_isNull_0 : decode m_TM_isNull.2.1 0 = .ok (.aload_n 0, 1) := by decide +kernel
theorem d_TM_isNull_1 : decode m_TM_isNull.2.1 1 = .ok (.getfield 20, 3) := by decide +kernel
theorem d_TM_isNull_4 : decode m_TM_isNull.2.1 4 = .ok (.getfield 126, 3) := by decide +kernel
theorem d_TM_isNull_7 : decode m_TM_isNull.2.1 7 = .ok (.aload_n 0, 1) := by decide +kernel
theorem d_TM_isNull_8 : decode m_TM_isNull.2.1 8 = .ok (.iload_n 1, 1) := by decide +kernel
theorem d_TM_isNull_9 : decode m_TM_isNull.2.1 9 = .ok (.lload_n 2, 1) := by decide +kernel
theorem d_TM_isNull_10 : decode m_TM_isNull.2.1 10 = .ok (.iload 4, 2) := by decide +kernel
theorem d_TM_isNull_12 : decode m_TM_isNull.2.1 12 = .ok (.invokevirtual 129, 3) := by decide +kernel
theorem d_TM_isNull_15 : decode m_TM_isNull.2.1 15 = .ok (.invokevirtual 137, 3) := by decide +kernel
theorem d_TM_isNull_18 : decode m_TM_isNull.2.1 18 = .ok (.ifCond .ne 7, 3) := by decide +kernel
theorem d_TM_isNull_21 : decode m_TM_isNull.2.1 21 = .ok (.iconst 1, 1) := by decide +kernel
theorem d_TM_isNull_22 : decode m_TM_isNull.2.1 22 = .ok (.goto 4, 3) := by decide +kernel
theorem d_TM_isNull_25 : decode m_TM_isNull.2.1 25 = .ok (.iconst 0, 1) := by decide +kernel
theorem d_TM_isNull_26 : decode m_TM_isNull.2.1 26 = .ok (.ireturn, 1) := by decide +kernel
theorem d_TM_add_0 : decode m_TM_add.2.1 0 = .ok (.iload_n 1, 1) := by decide +kernel
theorem d_TM_add_1 : decode m_TM_add.2.1 1 = .ok (.iload_n 2, 1) := by decide +kernel
theorem d_TM_add_2 : decode m_TM_add.2.1 2 = .ok (.iload_n 3, 1) := by decide +kernel
theorem d_TM_add_3 : decode m_TM_add.2.1 3 = .ok (.iload 4, 2) := by decide +kernel
theorem d_TM_add_5 : decode m_TM_add.2.1 5 = .ok (.invokestatic 140, 3) := by decide +kernel
theorem d_TM_add_8 : decode m_TM_add.2.1 8 = .ok (.ifCond .ne 13, 3) := by decide +kernel
theorem d_TM_add_11 : decode m_TM_add.2.1 11 = .ok (.new 47, 3) := by decide +kernel
theorem d_TM_add_14 : decode m_TM_add.2.1 14 = .ok (.dup, 1) := by decide +kernel
theorem d_TM_add_15 : decode m_TM_add.2.1 15 = .ok (.ldc 146, 2) := by decide +kernel
theorem d_TM_add_17 : decode m_TM_add.2.1 17 = .ok (.invokespecial 51, 3) := by decide +kernel
theorem d_TM_add_20 : decode m_TM_add.2.1 20 = .ok (.athrow, 1) := by decide +kernel
theorem d_TM_add_21 : decode m_TM_add.2.1 21 = .ok (.aload_n 0, 1) := by decide +kernel
theorem d_TM_add_22 : decode m_TM_add.2.1 22 = .ok (.getfield 25, 3) := by decide +kernel
theorem d_TM_add_25 : decode m_TM_add.2.1 25 = .ok (.getfield 148, 3) := by decide +kernel
theorem d_TM_add_28 : decode m_TM_add.2.1 28 = .ok (.bipush 60, 2) := by decide +kernel
theorem d_TM_add_30 : decode m_TM_add.2.1 30 = .ok (.if_icmp .ne 13, 3) := by decide +kernel
theorem d_TM_add_33 : decode m_TM_add.2.1 33 = .ok (.new 60, 3) := by decide +kernel
theorem d_TM_add_36 : decode m_TM_add.2.1 36 = .ok (.dup, 1) := by decide +kernel
theorem d_TM_add_37 : decode m_TM_add.2.1 37 = .ok (.ldc 151, 2) := by decide +kernel
theorem d_TM_add_39 : decode m_TM_add.2.1 39 = .ok (.invokespecial 64, 3) := by decide +kernel
theorem d_TM_add_42 : decode m_TM_add.2.1 42 = .ok (.athrow, 1) := by decide +kernel
theorem d_TM_add_43 : decode m_TM_add.2.1 43 = .ok (.aload_n 0, 1) := by decide +kernel
theorem d_TM_add_44 : decode m_TM_add.2.1 44 = .ok (.getfield 25, 3) := by decide +kernel
theorem d_TM_add_47 : decode m_TM_add.2.1 47 = .ok (.iload_n 1, 1) := by decide +kernel
theorem d_TM_add_48 : decode m_TM_add.2.1 48 = .ok (.iload_n 1, 1) := by decide +kernel
theorem d_TM_add_49 : decode m_TM_add.2.1 49 = .ok (.iconst 0, 1) := by decide +kernel
theorem d_TM_add_50 : decode m_TM_add.2.1 50 = .ok (.iload_n 2, 1) := by decide +kernel
theorem d_TM_add_51 : decode m_TM_add.2.1 51 = .ok (.invokestatic 153, 3) := by decide +kernel
theorem d_TM_add_54 : decode m_TM_add.2.1 54 = .ok (.iload_n 1, 1) := by decide +kernel
theorem d_TM_add_55 : decode m_TM_add.2.1 55 = .ok (.iconst 1, 1) := by decide +kernel
theorem d_TM_add_56 : decode m_TM_add.2.1 56 = .ok (.iload_n 3, 1) := by decide +kernel
theorem d_TM_add_57 : decode m_TM_add.2.1 57 = .ok (.invokestatic 153, 3) := by decide +kernel
theorem d_TM_add_60 : decode m_TM_add.2.1 60 = .ok (.iload_n 1, 1) := by decide +kernel
theorem d_TM_add_61 : decode m_TM_add.2.1 61 = .ok (.iconst 2, 1) := by decide +kernel
theorem d_TM_add_62 : decode m_TM_add.2.1 62 = .ok (.iload 4, 2) := by decide +kernel
theorem d_TM_add_64 : decode m_TM_add.2.1 64 = .ok (.invokestatic 153, 3) := by decide +kernel
theorem d_TM_add_67 : decode m_TM_add.2.1 67 = .ok (.invokevirtual 157, 3) := by decide +kernel
theorem d_TM_add_70 : decode m_TM_add.2.1 70 = .ok (.aload_n 0, 1) := by decide +kernel
theorem d_TM_add_71 : decode m_TM_add.2.1 71 = .ok (.getfield 25, 3) := by decide +kernel
theorem d_TM_add_74 : decode m_TM_add.2.1 74 = .ok (.getfield 148, 3) := by decide +kernel
theorem d_TM_add_77 : decode m_TM_add.2.1 77 = .ok (.iconst 1, 1) := by decide +kernel
theorem d_TM_add_78 : decode m_TM_add.2.1 78 = .ok (.isub, 1) := by decide +kernel
theorem d_TM_add_79 : decode m_TM_add.2.1 79 = .ok (.ireturn, 1) := by decide +kernel
theorem d_TM_code_0 : decode m_TM_code.2.1 0 = .ok (.iload_n 1, 1) := by decide +kernel
theorem d_TM_code_1 : decode m_TM_code.2.1 1 = .ok (.aload_n 0, 1) := by decide +kernel
theorem d_TM_code_2 : decode m_TM_code.2.1 2 = .ok (.getfield 25, 3) := by decide +kernel
theorem d_TM_code_5 : decode m_TM_code.2.1 5 = .ok (.getfield 148, 3) := by decide +kernel
theorem d_TM_code_8 : decode m_TM_code.2.1 8 = .ok (.invokestatic 69, 3) := by decide +kernel
theorem d_TM_code_11 : decode m_TM_code.2.1 11 = .ok (.ifCond .eq 11, 3) := by decide +kernel
theorem d_TM_code_14 : decode m_TM_code.2.1 14 = .ok (.iload_n 2, 1) := by decide +kernel
theorem d_TM_code_15 : decode m_TM_code.2.1 15 = .ok (.iconst 4, 1) := by decide +kernel
theorem d_TM_code_16 : decode m_TM_code.2.1 16 = .ok (.invokestatic 69, 3) := by decide +kernel
theorem d_TM_code_19 : decode m_TM_code.2.1 19 = .ok (.ifCond .ne 13, 3) := by decide +kernel
theorem d_TM_code_22 : decode m_TM_code.2.1 22 = .ok (.new 161, 3) := by decide +kernel
theorem d_TM_code_25 : decode m_TM_code.2.1 25 = .ok (.dup, 1) := by decide +kernel
theorem d_TM_code_26 : decode m_TM_code.2.1 26 = .ok (.ldc 163, 2) := by decide +kernel
theorem d_TM_code_28 : decode m_TM_code.2.1 28 = .ok (.invokespecial 165, 3) := by decide +kernel
theorem d_TM_code_31 : decode m_TM_code.2.1 31 = .ok (.athrow, 1) := by decide +kernel
theorem d_TM_code_32 : decode m_TM_code.2.1 32 = .ok (.aload_n 0, 1) := by decide +kernel
theorem d_TM_code_33 : decode m_TM_code.2.1 33 = .ok (.getfield 25, 3) := by decide +kernel
theorem d_TM_code_36 : decode m_TM_code.2.1 36 = .ok (.iload_n 1, 1) := by decide +kernel
theorem d_TM_code_37 : decode m_TM_code.2.1 37 = .ok (.iload_n 2, 1) := by decide +kernel
theorem d_TM_code_38 : decode m_TM_code.2.1 38 = .ok (.invokevirtual 166, 3) := by decide +kernel
theorem d_TM_code_41 : decode m_TM_code.2.1 41 = .ok (.ireturn, 1) := by decide +kernel
theorem d_TM_run_0 : decode m_TM_run.2.1 0 = .ok (.iload_n 1, 1) := by decide +kernel
theorem d_TM_run_1 : decode m_TM_run.2.1 1 = .ok (.ifCond .lt 10, 3) := by decide +kernel
theorem d_TM_run_4 : decode m_TM_run.2.1 4 = .ok (.iload_n 1, 1) := by decide +kernel
theorem d_TM_run_5 : decode m_TM_run.2.1 5 = .ok (.sipush 4000, 3) := by decide +kernel
theorem d_TM_run_8 : decode m_TM_run.2.1 8 = .ok (.if_icmp .le 13, 3) := by decide +kernel
theorem d_TM_run_11 : decode m_TM_run.2.1 11 = .ok (.new 47, 3) := by decide +kernel
theorem d_TM_run_14 : decode m_TM_run.2.1 14 = .ok (.dup, 1) := by decide +kernel
theorem d_TM_run_15 : decode m_TM_run.2.1 15 = .ok (.ldc 170, 2) := by decide +kernel
theorem d_TM_run_17 : decode m_TM_run.2.1 17 = .ok (.invokespecial 51, 3) := by decide +kernel
theorem d_TM_run_20 : decode m_TM_run.2.1 20 = .ok (.athrow, 1) := by decide +kernel
theorem d_TM_run_21 : decode m_TM_run.2.1 21 = .ok (.aload_n 0, 1) := by decide +kernel
theorem d_TM_run_22 : decode m_TM_run.2.1 22 = .ok (.getfield 25, 3) := by decide +kernel
theorem d_TM_run_25 : decode m_TM_run.2.1 25 = .ok (.aload_n 0, 1) := by decide +kernel
theorem d_TM_run_26 : decode m_TM_run.2.1 26 = .ok (.getfield 20, 3) := by decide +kernel
theorem d_TM_run_29 : decode m_TM_run.2.1 29 = .ok (.getfield 54, 3) := by decide +kernel
theorem d_TM_run_32 : decode m_TM_run.2.1 32 = .ok (.invokevirtual 172, 3) := by decide +kernel
theorem d_TM_run_35 : decode m_TM_run.2.1 35 = .ok (.ifCond .ne 13, 3) := by decide +kernel
theorem d_TM_run_38 : decode m_TM_run.2.1 38 = .ok (.new 47, 3) := by decide +kernel
theorem d_TM_run_41 : decode m_TM_run.2.1 41 = .ok (.dup, 1) := by decide +kernel
theorem d_TM_run_42 : decode m_TM_run.2.1 42 = .ok (.ldc 175, 2) := by decide +kernel
theorem d_TM_run_44 : decode m_TM_run.2.1 44 = .ok (.invokespecial 51, 3) := by decide +kernel
theorem d_TM_run_47 : decode m_TM_run.2.1 47 = .ok (.athrow, 1) := by decide +kernel
theorem d_TM_run_48 : decode m_TM_run.2.1 48 = .ok (.aload_n 0, 1) := by decide +kernel
theorem d_TM_run_49 : decode m_TM_run.2.1 49 = .ok (.getfield 10, 3) := by decide +kernel
theorem d_TM_run_52 : decode m_TM_run.2.1 52 = .ok (.iload_n 1, 1) := by decide +kernel
theorem d_TM_run_53 : decode m_TM_run.2.1 53 = .ok (.invokevirtual 177, 3) := by decide +kernel
theorem d_TM_run_56 : decode m_TM_run.2.1 56 = .ok (.ireturn, 1) := by decide +kernel
theorem d_TM_result_0 : decode m_TM_result.2.1 0 = .ok (.iload_n 1, 1) := by decide +kernel
theorem d_TM_result_1 : decode m_TM_result.2.1 1 = .ok (.iconst (-1), 1) := by decide +kernel
theorem d_TM_result_2 : decode m_TM_result.2.1 2 = .ok (.if_icmp .ne 12, 3) := by decide +kernel
theorem d_TM_result_5 : decode m_TM_result.2.1 5 = .ok (.aload_n 0, 1) := by decide +kernel
theorem d_TM_result_6 : decode m_TM_result.2.1 6 = .ok (.getfield 30, 3) := by decide +kernel
theorem d_TM_result_9 : decode m_TM_result.2.1 9 = .ok (.getfield 180, 3) := by decide +kernel
theorem d_TM_result_12 : decode m_TM_result.2.1 12 = .ok (.i2l, 1) := by decide +kernel
theorem d_TM_result_13 : decode m_TM_result.2.1 13 = .ok (.lreturn, 1) := by decide +kernel
theorem d_TM_result_14 : decode m_TM_result.2.1 14 = .ok (.iload_n 2, 1) := by decide +kernel
theorem d_TM_result_15 : decode m_TM_result.2.1 15 = .ok (.iconst (-1), 1) := by decide +kernel
theorem d_TM_result_16 : decode m_TM_result.2.1 16 = .ok (.if_icmp .ne 25, 3) := by decide +kernel
theorem d_TM_result_19 : decode m_TM_result.2.1 19 = .ok (.aload_n 0, 1) := by decide +kernel
theorem d_TM_result_20 : decode m_TM_result.2.1 20 = .ok (.getfield 30, 3) := by decide +kernel
theorem d_TM_result_23 : decode m_TM_result.2.1 23 = .ok (.iload_n 1, 1) := by decide +kernel
theorem d_TM_result_24 : decode m_TM_result.2.1 24 = .ok (.invokevirtual 183, 3) := by decide +kernel
theorem d_TM_result_27 : decode m_TM_result.2.1 27 = .ok (.ifCond .eq 14, 3) := by decide +kernel
theorem d_TM_result_30 : decode m_TM_result.2.1 30 = .ok (.aload_n 0, 1) := by decide +kernel
theorem d_TM_result_31 : decode m_TM_result.2.1 31 = .ok (.getfield 30, 3) := by decide +kernel
theorem d_TM_result_34 : decode m_TM_result.2.1 34 = .ok (.getfield 186, 3) := by decide +kernel
theorem d_TM_result_37 : decode m_TM_result.2.1 37 = .ok (.iload_n 1, 1) := by decide +kernel
theorem d_TM_result_38 : decode m_TM_result.2.1 38 = .ok (.iaload, 1) := by decide +kernel
theorem d_TM_result_39 : decode m_TM_result.2.1 39 = .ok (.i2l, 1) := by decide +kernel
theorem d_TM_result_40 : decode m_TM_result.2.1 40 = .ok (.lreturn, 1) := by decide +kernel
theorem d_TM_result_41 : decode m_TM_result.2.1 41 = .ok (.aload_n 0, 1) := by decide +kernel
theorem d_TM_result_42 : decode m_TM_result.2.1 42 = .ok (.getfield 30, 3) := by decide +kernel
theorem d_TM_result_45 : decode m_TM_result.2.1 45 = .ok (.getfield 190, 3) := by decide +kernel
theorem d_TM_result_48 : decode m_TM_result.2.1 48 = .ok (.aload_n 0, 1) := by decide +kernel
theorem d_TM_result_49 : decode m_TM_result.2.1 49 = .ok (.iload_n 1, 1) := by decide +kernel
theorem d_TM_result_50 : decode m_TM_result.2.1 50 = .ok (.iload_n 2, 1) := by decide +kernel
theorem d_TM_result_51 : decode m_TM_result.2.1 51 = .ok (.invokevirtual 191, 3) := by decide +kernel
theorem d_TM_result_54 : decode m_TM_result.2.1 54 = .ok (.invokevirtual 133, 3) := by decide +kernel
theorem d_TM_result_57 : decode m_TM_result.2.1 57 = .ok (.lreturn, 1) := by decide +kernel
theorem d_TM_requireResult_0 : decode m_TM_requireResult.2.1 0 = .ok (.aload_n 0, 1) := by decide +kernel
theorem d_TM_requireResult_1 : decode m_TM_requireResult.2.1 1 = .ok (.getfield 30, 3) := by decide +kernel
theorem d_TM_requireResult_4 : decode m_TM_requireResult.2.1 4 = .ok (.iload_n 1, 1) := by decide +kernel
theorem d_TM_requireResult_5 : decode m_TM_requireResult.2.1 5 = .ok (.invokevirtual 183, 3) := by decide +kernel
theorem d_TM_requireResult_8 : decode m_TM_requireResult.2.1 8 = .ok (.ifCond .eq 19, 3) := by decide +kernel
theorem d_TM_requireResult_11 : decode m_TM_requireResult.2.1 11 = .ok (.iload_n 2, 1) := by decide +kernel
theorem d_TM_requireResult_12 : decode m_TM_requireResult.2.1 12 = .ok (.aload_n 0, 1) := by decide +kernel
theorem d_TM_requireResult_13 : decode m_TM_requireResult.2.1 13 = .ok (.getfield 30, 3) := by decide +kernel
theorem d_TM_requireResult_16 : decode m_TM_requireResult.2.1 16 = .ok (.getfield 186, 3) := by decide +kernel
theorem d_TM_requireResult_19 : decode m_TM_requireResult.2.1 19 = .ok (.iload_n 1, 1) := by decide +kernel
theorem d_TM_requireResult_20 : decode m_TM_requireResult.2.1 20 = .ok (.iaload, 1) := by decide +kernel
theorem d_TM_requireResult_21 : decode m_TM_requireResult.2.1 21 = .ok (.invokestatic 69, 3) := by decide +kernel
theorem d_TM_requireResult_24 : decode m_TM_requireResult.2.1 24 = .ok (.ifCond .ne 13, 3) := by decide +kernel
theorem d_TM_requireResult_27 : decode m_TM_requireResult.2.1 27 = .ok (.new 161, 3) := by decide +kernel
theorem d_TM_requireResult_30 : decode m_TM_requireResult.2.1 30 = .ok (.dup, 1) := by decide +kernel
theorem d_TM_requireResult_31 : decode m_TM_requireResult.2.1 31 = .ok (.ldc 234, 2) := by decide +kernel
theorem d_TM_requireResult_33 : decode m_TM_requireResult.2.1 33 = .ok (.invokespecial 165, 3) := by decide +kernel
theorem d_TM_requireResult_36 : decode m_TM_requireResult.2.1 36 = .ok (.athrow, 1) := by decide +kernel
theorem d_TM_requireResult_37 : decode m_TM_requireResult.2.1 37 = .ok (.iload_n 1, 1) := by decide +kernel
theorem d_TM_requireResult_38 : decode m_TM_requireResult.2.1 38 = .ok (.iconst 4, 1) := by decide +kernel
theorem d_TM_requireResult_39 : decode m_TM_requireResult.2.1 39 = .ok (.imul, 1) := by decide +kernel
theorem d_TM_requireResult_40 : decode m_TM_requireResult.2.1 40 = .ok (.iload_n 2, 1) := by decide +kernel
theorem d_TM_requireResult_41 : decode m_TM_requireResult.2.1 41 = .ok (.iadd, 1) := by decide +kernel
theorem d_TM_requireResult_42 : decode m_TM_requireResult.2.1 42 = .ok (.ireturn, 1) := by decide +kernel
theorem d_TM_wasNull_0 : decode m_TM_wasNull.2.1 0 = .ok (.aload_n 0, 1) := by decide +kernel
theorem d_TM_wasNull_1 : decode m_TM_wasNull.2.1 1 = .ok (.getfield 30, 3) := by decide +kernel
theorem d_TM_wasNull_4 : decode m_TM_wasNull.2.1 4 = .ok (.getfield 190, 3) := by decide +kernel
theorem d_TM_wasNull_7 : decode m_TM_wasNull.2.1 7 = .ok (.aload_n 0, 1) := by decide +kernel
theorem d_TM_wasNull_8 : decode m_TM_wasNull.2.1 8 = .ok (.iload_n 1, 1) := by decide +kernel
theorem d_TM_wasNull_9 : decode m_TM_wasNull.2.1 9 = .ok (.iload_n 2, 1) := by decide +kernel
theorem d_TM_wasNull_10 : decode m_TM_wasNull.2.1 10 = .ok (.invokevirtual 191, 3) := by decide +kernel
theorem d_TM_wasNull_13 : decode m_TM_wasNull.2.1 13 = .ok (.invokevirtual 137, 3) := by decide +kernel
theorem d_TM_wasNull_16 : decode m_TM_wasNull.2.1 16 = .ok (.ifCond .ne 7, 3) := by decide +kernel
theorem d_TM_wasNull_19 : decode m_TM_wasNull.2.1 19 = .ok (.iconst 1, 1) := by decide +kernel
theorem d_TM_wasNull_20 : decode m_TM_wasNull.2.1 20 = .ok (.goto 4, 3) := by decide +kernel
theorem d_TM_wasNull_23 : decode m_TM_wasNull.2.1 23 = .ok (.iconst 0, 1) := by decide +kernel
theorem d_TM_wasNull_24 : decode m_TM_wasNull.2.1 24 = .ok (.ireturn, 1) := by decide +kernel
theorem d_TM_compile_0 : decode m_TM_compile.2.1 0 = .ok (.aload_n 0, 1) := by decide +kernel
theorem d_TM_compile_1 : decode m_TM_compile.2.1 1 = .ok (.getfield 43, 3) := by decide +kernel
theorem d_TM_compile_4 : decode m_TM_compile.2.1 4 = .ok (.getfield 197, 3) := by decide +kernel
theorem d_TM_compile_7 : decode m_TM_compile.2.1 7 = .ok (.ifCond .ne 13, 3) := by decide +kernel
theorem d_TM_compile_10 : decode m_TM_compile.2.1 10 = .ok (.new 60, 3) := by decide +kernel
theorem d_TM_compile_13 : decode m_TM_compile.2.1 13 = .ok (.dup, 1) := by decide +kernel
theorem d_TM_compile_14 : decode m_TM_compile.2.1 14 = .ok (.ldc 215, 2) := by decide +kernel
theorem d_TM_compile_16 : decode m_TM_compile.2.1 16 = .ok (.invokespecial 64, 3) := by decide +kernel
theorem d_TM_compile_19 : decode m_TM_compile.2.1 19 = .ok (.athrow, 1) := by decide +kernel
theorem d_TM_compile_20 : decode m_TM_compile.2.1 20 = .ok (.aload_n 0, 1) := by decide +kernel
theorem d_TM_compile_21 : decode m_TM_compile.2.1 21 = .ok (.getfield 43, 3) := by decide +kernel
theorem d_TM_compile_24 : decode m_TM_compile.2.1 24 = .ok (.aload_n 0, 1) := by decide +kernel
theorem d_TM_compile_25 : decode m_TM_compile.2.1 25 = .ok (.getfield 25, 3) := by decide +kernel
theorem d_TM_compile_28 : decode m_TM_compile.2.1 28 = .ok (.iconst 0, 1) := by decide +kernel
theorem d_TM_compile_29 : decode m_TM_compile.2.1 29 = .ok (.invokevirtual 217, 3) := by decide +kernel
theorem d_TM_compile_32 : decode m_TM_compile.2.1 32 = .ok (.aload_n 0, 1) := by decide +kernel
theorem d_TM_compile_33 : decode m_TM_compile.2.1 33 = .ok (.getfield 43, 3) := by decide +kernel
theorem d_TM_compile_36 : decode m_TM_compile.2.1 36 = .ok (.aload_n 0, 1) := by decide +kernel
theorem d_TM_compile_37 : decode m_TM_compile.2.1 37 = .ok (.getfield 25, 3) := by decide +kernel
theorem d_TM_compile_40 : decode m_TM_compile.2.1 40 = .ok (.aload_n 0, 1) := by decide +kernel
theorem d_TM_compile_41 : decode m_TM_compile.2.1 41 = .ok (.getfield 25, 3) := by decide +kernel
theorem d_TM_compile_44 : decode m_TM_compile.2.1 44 = .ok (.getfield 148, 3) := by decide +kernel
theorem d_TM_compile_47 : decode m_TM_compile.2.1 47 = .ok (.invokevirtual 217, 3) := by decide +kernel
theorem d_TM_compile_50 : decode m_TM_compile.2.1 50 = .ok (.aload_n 0, 1) := by decide +kernel
theorem d_TM_compile_51 : decode m_TM_compile.2.1 51 = .ok (.getfield 25, 3) := by decide +kernel
theorem d_TM_compile_54 : decode m_TM_compile.2.1 54 = .ok (.getfield 148, 3) := by decide +kernel
theorem d_TM_compile_57 : decode m_TM_compile.2.1 57 = .ok (.ireturn, 1) := by decide +kernel
