theorem d_Val_init_0 : decode m_Val_init.2.1 0 = .ok (.aload_n 0, 1) := by decide +kernel
theorem d_Val_init_1 : decode m_Val_init.2.1 1 = .ok (.invokespecial 1, 3) := by decide +kernel
theorem d_Val_init_4 : decode m_Val_init.2.1 4 = .ok (.aload_n 0, 1) := by decide +kernel
theorem d_Val_init_5 : decode m_Val_init.2.1 5 = .ok (.iload_n 1, 1) := by decide +kernel
theorem d_Val_init_6 : decode m_Val_init.2.1 6 = .ok (.newarray .long, 2) := by decide +kernel
theorem d_Val_init_8 : decode m_Val_init.2.1 8 = .ok (.putfield 7, 3) := by decide +kernel
theorem d_Val_init_11 : decode m_Val_init.2.1 11 = .ok (.aload_n 0, 1) := by decide +kernel
theorem d_Val_init_12 : decode m_Val_init.2.1 12 = .ok (.iload_n 1, 1) := by decide +kernel
theorem d_Val_init_13 : decode m_Val_init.2.1 13 = .ok (.newarray .boolean, 2) := by decide +kernel
theorem d_Val_init_15 : decode m_Val_init.2.1 15 = .ok (.putfield 13, 3) := by decide +kernel
theorem d_Val_init_18 : decode m_Val_init.2.1 18 = .ok (.return_, 1) := by decide +kernel
theorem d_Val_put_0 : decode m_Val_put.2.1 0 = .ok (.aload_n 0, 1) := by decide +kernel
theorem d_Val_put_1 : decode m_Val_put.2.1 1 = .ok (.getfield 7, 3) := by decide +kernel
theorem d_Val_put_4 : decode m_Val_put.2.1 4 = .ok (.iload_n 1, 1) := by decide +kernel
theorem d_Val_put_5 : decode m_Val_put.2.1 5 = .ok (.lload_n 2, 1) := by decide +kernel
theorem d_Val_put_6 : decode m_Val_put.2.1 6 = .ok (.lastore, 1) := by decide +kernel
theorem d_Val_put_7 : decode m_Val_put.2.1 7 = .ok (.aload_n 0, 1) := by decide +kernel
theorem d_Val_put_8 : decode m_Val_put.2.1 8 = .ok (.getfield 13, 3) := by decide +kernel
theorem d_Val_put_11 : decode m_Val_put.2.1 11 = .ok (.iload_n 1, 1) := by decide +kernel
theorem d_Val_put_12 : decode m_Val_put.2.1 12 = .ok (.iconst 1, 1) := by decide +kernel
theorem d_Val_put_13 : decode m_Val_put.2.1 13 = .ok (.bastore, 1) := by decide +kernel
theorem d_Val_put_14 : decode m_Val_put.2.1 14 = .ok (.return_, 1) := by decide +kernel
theorem d_Val_clear_0 : decode m_Val_clear.2.1 0 = .ok (.aload_n 0, 1) := by decide +kernel
theorem d_Val_clear_1 : decode m_Val_clear.2.1 1 = .ok (.getfield 7, 3) := by decide +kernel
theorem d_Val_clear_4 : decode m_Val_clear.2.1 4 = .ok (.iload_n 1, 1) := by decide +kernel
theorem d_Val_clear_5 : decode m_Val_clear.2.1 5 = .ok (.lconst 0, 1) := by decide +kernel
theorem d_Val_clear_6 : decode m_Val_clear.2.1 6 = .ok (.lastore, 1) := by decide +kernel
theorem d_Val_clear_7 : decode m_Val_clear.2.1 7 = .ok (.aload_n 0, 1) := by decide +kernel
theorem d_Val_clear_8 : decode m_Val_clear.2.1 8 = .ok (.getfield 13, 3) := by decide +kernel
theorem d_Val_clear_11 : decode m_Val_clear.2.1 11 = .ok (.iload_n 1, 1) := by decide +kernel
theorem d_Val_clear_12 : decode m_Val_clear.2.1 12 = .ok (.iconst 0, 1) := by decide +kernel
theorem d_Val_clear_13 : decode m_Val_clear.2.1 13 = .ok (.bastore, 1) := by decide +kernel
theorem d_Val_clear_14 : decode m_Val_clear.2.1 14 = .ok (.return_, 1) := by decide +kernel
theorem d_Val_copy_0 : decode m_Val_copy.2.1 0 = .ok (.aload_n 0, 1) := by decide +kernel
theorem d_Val_copy_1 : decode m_Val_copy.2.1 1 = .ok (.getfield 7, 3) := by decide +kernel
theorem d_Val_copy_4 : decode m_Val_copy.2.1 4 = .ok (.iload_n 1, 1) := by decide +kernel
theorem d_Val_copy_5 : decode m_Val_copy.2.1 5 = .ok (.aload_n 2, 1) := by decide +kernel
theorem d_Val_copy_6 : decode m_Val_copy.2.1 6 = .ok (.getfield 7, 3) := by decide +kernel
theorem d_Val_copy_9 : decode m_Val_copy.2.1 9 = .ok (.iload_n 3, 1) := by decide +kernel
theorem d_Val_copy_10 : decode m_Val_copy.2.1 10 = .ok (.laload, 1) := by decide +kernel
theorem d_Val_copy_11 : decode m_Val_copy.2.1 11 = .ok (.lastore, 1) := by decide +kernel
theorem d_Val_copy_12 : decode m_Val_copy.2.1 12 = .ok (.aload_n 0, 1) := by decide +kernel
theorem d_Val_copy_13 : decode m_Val_copy.2.1 13 = .ok (.getfield 13, 3) := by decide +kernel
theorem d_Val_copy_16 : decode m_Val_copy.2.1 16 = .ok (.iload_n 1, 1) := by decide +kernel
theorem d_Val_copy_17 : decode m_Val_copy.2.1 17 = .ok (.aload_n 2, 1) := by decide +kernel
theorem d_Val_copy_18 : decode m_Val_copy.2.1 18 = .ok (.getfield 13, 3) := by decide +kernel
theorem d_Val_copy_21 : decode m_Val_copy.2.1 21 = .ok (.iload_n 3, 1) := by decide +kernel
theorem d_Val_copy_22 : decode m_Val_copy.2.1 22 = .ok (.baload, 1) := by decide +kernel
theorem d_Val_copy_23 : decode m_Val_copy.2.1 23 = .ok (.bastore, 1) := by decide +kernel
theorem d_Val_copy_24 : decode m_Val_copy.2.1 24 = .ok (.return_, 1) := by decide +kernel
theorem d_Val_number_0 : decode m_Val_number.2.1 0 = .ok (.aload_n 0, 1) := by decide +kernel
theorem d_Val_number_1 : decode m_Val_number.2.1 1 = .ok (.getfield 7, 3) := by decide +kernel
theorem d_Val_number_4 : decode m_Val_number.2.1 4 = .ok (.iload_n 1, 1) := by decide +kernel
theorem d_Val_number_5 : decode m_Val_number.2.1 5 = .ok (.laload, 1) := by decide +kernel
theorem d_Val_number_6 : decode m_Val_number.2.1 6 = .ok (.lreturn, 1) := by decide +kernel
theorem d_Val_has_0 : decode m_Val_has.2.1 0 = .ok (.aload_n 0, 1) := by decide +kernel
theorem d_Val_has_1 : decode m_Val_has.2.1 1 = .ok (.getfield 13, 3) := by decide +kernel
theorem d_Val_has_4 : decode m_Val_has.2.1 4 = .ok (.iload_n 1, 1) := by decide +kernel
theorem d_Val_has_5 : decode m_Val_has.2.1 5 = .ok (.baload, 1) := by decide +kernel
theorem d_Val_has_6 : decode m_Val_has.2.1 6 = .ok (.ireturn, 1) := by decide +kernel
theorem d_Val_clearAll_0 : decode m_Val_clearAll.2.1 0 = .ok (.iconst 0, 1) := by decide +kernel
theorem d_Val_clearAll_1 : decode m_Val_clearAll.2.1 1 = .ok (.istore_n 1, 1) := by decide +kernel
theorem d_Val_clearAll_2 : decode m_Val_clearAll.2.1 2 = .ok (.iload_n 1, 1) := by decide +kernel
theorem d_Val_clearAll_3 : decode m_Val_clearAll.2.1 3 = .ok (.aload_n 0, 1) := by decide +kernel
theorem d_Val_clearAll_4 : decode m_Val_clearAll.2.1 4 = .ok (.getfield 7, 3) := by decide +kernel
theorem d_Val_clearAll_7 : decode m_Val_clearAll.2.1 7 = .ok (.arraylength, 1) := by decide +kernel
theorem d_Val_clearAll_8 : decode m_Val_clearAll.2.1 8 = .ok (.if_icmp .ge 14, 3) := by decide +kernel
theorem d_Val_clearAll_11 : decode m_Val_clearAll.2.1 11 = .ok (.aload_n 0, 1) := by decide +kernel
theorem d_Val_clearAll_12 : decode m_Val_clearAll.2.1 12 = .ok (.iload_n 1, 1) := by decide +kernel
theorem d_Val_clearAll_13 : decode m_Val_clearAll.2.1 13 = .ok (.invokevirtual 17, 3) := by decide +kernel
theorem d_Val_clearAll_16 : decode m_Val_clearAll.2.1 16 = .ok (.iinc 1 1, 3) := by decide +kernel
theorem d_Val_clearAll_19 : decode m_Val_clearAll.2.1 19 = .ok (.goto (-17), 3) := by decide +kernel
theorem d_Val_clearAll_22 : decode m_Val_clearAll.2.1 22 = .ok (.return_, 1) := by decide +kernel
theorem d_Tab_init_0 : decode m_Tab_init.2.1 0 = .ok (.aload_n 0, 1) := by decide +kernel
theorem d_Tab_init_1 : decode m_Tab_init.2.1 1 = .ok (.invokespecial 3, 3) := by decide +kernel
theorem d_Tab_init_4 : decode m_Tab_init.2.1 4 = .ok (.aload_n 0, 1) := by decide +kernel
theorem d_Tab_init_5 : decode m_Tab_init.2.1 5 = .ok (.iconst 0, 1) := by decide +kernel
theorem d_Tab_init_6 : decode m_Tab_init.2.1 6 = .ok (.putfield 9, 3) := by decide +kernel
theorem d_Tab_init_9 : decode m_Tab_init.2.1 9 = .ok (.aload_n 0, 1) := by decide +kernel
theorem d_Tab_init_10 : decode m_Tab_init.2.1 10 = .ok (.iconst 0, 1) := by decide +kernel
theorem d_Tab_init_11 : decode m_Tab_init.2.1 11 = .ok (.putfield 15, 3) := by decide +kernel
theorem d_Tab_init_14 : decode m_Tab_init.2.1 14 = .ok (.aload_n 0, 1) := by decide +kernel
theorem d_Tab_init_15 : decode m_Tab_init.2.1 15 = .ok (.bipush 90, 2) := by decide +kernel
theorem d_Tab_init_17 : decode m_Tab_init.2.1 17 = .ok (.newarray .int, 2) := by decide +kernel
theorem d_Tab_init_19 : decode m_Tab_init.2.1 19 = .ok (.putfield 18, 3) := by decide +kernel
theorem d_Tab_init_22 : decode m_Tab_init.2.1 22 = .ok (.return_, 1) := by decide +kernel
theorem d_Tab_open_0 : decode m_Tab_open.2.1 0 = .ok (.aload_n 0, 1) := by decide +kernel
theorem d_Tab_open_1 : decode m_Tab_open.2.1 1 = .ok (.getfield 15, 3) := by decide +kernel
theorem d_Tab_open_4 : decode m_Tab_open.2.1 4 = .ok (.istore_n 3, 1) := by decide +kernel
theorem d_Tab_open_5 : decode m_Tab_open.2.1 5 = .ok (.iload_n 3, 1) := by decide +kernel
theorem d_Tab_open_6 : decode m_Tab_open.2.1 6 = .ok (.iload_n 1, 1) := by decide +kernel
theorem d_Tab_open_7 : decode m_Tab_open.2.1 7 = .ok (.if_icmp .le 23, 3) := by decide +kernel
theorem d_Tab_open_10 : decode m_Tab_open.2.1 10 = .ok (.aload_n 0, 1) := by decide +kernel
theorem d_Tab_open_11 : decode m_Tab_open.2.1 11 = .ok (.getfield 18, 3) := by decide +kernel
theorem d_Tab_open_14 : decode m_Tab_open.2.1 14 = .ok (.iload_n 3, 1) := by decide +kernel
theorem d_Tab_open_15 : decode m_Tab_open.2.1 15 = .ok (.aload_n 0, 1) := by decide +kernel
theorem d_Tab_open_16 : decode m_Tab_open.2.1 16 = .ok (.getfield 18, 3) := by decide +kernel
theorem d_Tab_open_19 : decode m_Tab_open.2.1 19 = .ok (.iload_n 3, 1) := by decide +kernel
theorem d_Tab_open_20 : decode m_Tab_open.2.1 20 = .ok (.iconst 1, 1) := by decide +kernel
theorem d_Tab_open_21 : decode m_Tab_open.2.1 21 = .ok (.isub, 1) := by decide +kernel
theorem d_Tab_open_22 : decode m_Tab_open.2.1 22 = .ok (.iaload, 1) := by decide +kernel
theorem d_Tab_open_23 : decode m_Tab_open.2.1 23 = .ok (.iastore, 1) := by decide +kernel
theorem d_Tab_open_24 : decode m_Tab_open.2.1 24 = .ok (.iinc 3 (-1), 3) := by decide +kernel
theorem d_Tab_open_27 : decode m_Tab_open.2.1 27 = .ok (.goto (-22), 3) := by decide +kernel
theorem d_Tab_open_30 : decode m_Tab_open.2.1 30 = .ok (.aload_n 0, 1) := by decide +kernel
theorem d_Tab_open_31 : decode m_Tab_open.2.1 31 = .ok (.getfield 18, 3) := by decide +kernel
theorem d_Tab_open_34 : decode m_Tab_open.2.1 34 = .ok (.iload_n 1, 1) := by decide +kernel
theorem d_Tab_open_35 : decode m_Tab_open.2.1 35 = .ok (.iload_n 2, 1) := by decide +kernel
theorem d_Tab_open_36 : decode m_Tab_open.2.1 36 = .ok (.iastore, 1) := by decide +kernel
theorem d_Tab_open_37 : decode m_Tab_open.2.1 37 = .ok (.aload_n 0, 1) := by decide +kernel
theorem d_Tab_open_38 : decode m_Tab_open.2.1 38 = .ok (.dup, 1) := by decide +kernel
theorem d_Tab_open_39 : decode m_Tab_open.2.1 39 = .ok (.getfield 15, 3) := by decide +kernel
theorem d_Tab_open_42 : decode m_Tab_open.2.1 42 = .ok (.iconst 1, 1) := by decide +kernel
theorem d_Tab_open_43 : decode m_Tab_open.2.1 43 = .ok (.iadd, 1) := by decide +kernel
theorem d_Tab_open_44 : decode m_Tab_open.2.1 44 = .ok (.putfield 15, 3) := by decide +kernel
theorem d_Tab_open_47 : decode m_Tab_open.2.1 47 = .ok (.return_, 1) := by decide +kernel
theorem d_Tab_close_0 : decode m_Tab_close.2.1 0 = .ok (.aload_n 0, 1) := by decide +kernel
theorem d_Tab_close_1 : decode m_Tab_close.2.1 1 = .ok (.dup, 1) := by decide +kernel
theorem d_Tab_close_2 : decode m_Tab_close.2.1 2 = .ok (.getfield 15, 3) := by decide +kernel
theorem d_Tab_close_5 : decode m_Tab_close.2.1 5 = .ok (.iconst 1, 1) := by decide +kernel
theorem d_Tab_close_6 : decode m_Tab_close.2.1 6 = .ok (.isub, 1) := by decide +kernel
theorem d_Tab_close_7 : decode m_Tab_close.2.1 7 = .ok (.putfield 15, 3) := by decide +kernel
theorem d_Tab_close_10 : decode m_Tab_close.2.1 10 = .ok (.iload_n 1, 1) := by decide +kernel
theorem d_Tab_close_11 : decode m_Tab_close.2.1 11 = .ok (.istore_n 2, 1) := by decide +kernel
theorem d_Tab_close_12 : decode m_Tab_close.2.1 12 = .ok (.iload_n 2, 1) := by decide +kernel
theorem d_Tab_close_13 : decode m_Tab_close.2.1 13 = .ok (.aload_n 0, 1) := by decide +kernel
theorem d_Tab_close_14 : decode m_Tab_close.2.1 14 = .ok (.getfield 15, 3) := by decide +kernel
theorem d_Tab_close_17 : decode m_Tab_close.2.1 17 = .ok (.if_icmp .ge 23, 3) := by decide +kernel
theorem d_Tab_close_20 : decode m_Tab_close.2.1 20 = .ok (.aload_n 0, 1) := by decide +kernel
theorem d_Tab_close_21 : decode m_Tab_close.2.1 21 = .ok (.getfield 18, 3) := by decide +kernel
theorem d_Tab_close_24 : decode m_Tab_close.2.1 24 = .ok (.iload_n 2, 1) := by decide +kernel
theorem d_Tab_close_25 : decode m_Tab_close.2.1 25 = .ok (.aload_n 0, 1) := by decide +kernel
theorem d_Tab_close_26 : decode m_Tab_close.2.1 26 = .ok (.getfield 18, 3) := by decide +kernel
theorem d_Tab_close_29 : decode m_Tab_close.2.1 29 = .ok (.iload_n 2, 1) := by decide +kernel
theorem d_Tab_close_30 : decode m_Tab_close.2.1 30 = .ok (.iconst 1, 1) := by decide +kernel
theorem d_Tab_close_31 : decode m_Tab_close.2.1 31 = .ok (.iadd, 1) := by decide +kernel
theorem d_Tab_close_32 : decode m_Tab_close.2.1 32 = .ok (.iaload, 1) := by decide +kernel
theorem d_Tab_close_33 : decode m_Tab_close.2.1 33 = .ok (.iastore, 1) := by decide +kernel
theorem d_Tab_close_34 : decode m_Tab_close.2.1 34 = .ok (.iinc 2 1, 3) := by decide +kernel
theorem d_Tab_close_37 : decode m_Tab_close.2.1 37 = .ok (.goto (-25), 3) := by decide +kernel
theorem d_Tab_close_40 : decode m_Tab_close.2.1 40 = .ok (.return_, 1) := by decide +kernel
theorem d_Cur_init_0 : decode m_Cur_init.2.1 0 = .ok (.aload_n 0, 1) := by decide +kernel
theorem d_Cur_init_1 : decode m_Cur_init.2.1 1 = .ok (.invokespecial 3, 3) := by decide +kernel
theorem d_Cur_init_4 : decode m_Cur_init.2.1 4 = .ok (.aload_n 0, 1) := by decide +kernel
theorem d_Cur_init_5 : decode m_Cur_init.2.1 5 = .ok (.iconst (-1), 1) := by decide +kernel
theorem d_Cur_init_6 : decode m_Cur_init.2.1 6 = .ok (.putfield 9, 3) := by decide +kernel
theorem d_Cur_init_9 : decode m_Cur_init.2.1 9 = .ok (.aload_n 0, 1) := by decide +kernel
theorem d_Cur_init_10 : decode m_Cur_init.2.1 10 = .ok (.iconst 0, 1) := by decide +kernel
theorem d_Cur_init_11 : decode m_Cur_init.2.1 11 = .ok (.putfield 15, 3) := by decide +kernel
theorem d_Cur_init_14 : decode m_Cur_init.2.1 14 = .ok (.aload_n 0, 1) := by decide +kernel
theorem d_Cur_init_15 : decode m_Cur_init.2.1 15 = .ok (.lconst 0, 1) := by decide +kernel
theorem d_Cur_init_16 : decode m_Cur_init.2.1 16 = .ok (.putfield 19, 3) := by decide +kernel
theorem d_Cur_init_19 : decode m_Cur_init.2.1 19 = .ok (.return_, 1) := by decide +kernel
theorem d_Cur_shut_0 : decode m_Cur_shut.2.1 0 = .ok (.aload_n 0, 1) := by decide +kernel
theorem d_Cur_shut_1 : decode m_Cur_shut.2.1 1 = .ok (.iconst (-1), 1) := by decide +kernel
theorem d_Cur_shut_2 : decode m_Cur_shut.2.1 2 = .ok (.invokevirtual 23, 3) := by decide +kernel
theorem d_Cur_shut_5 : decode m_Cur_shut.2.1 5 = .ok (.return_, 1) := by decide +kernel
theorem d_Cur_open_0 : decode m_Cur_open.2.1 0 = .ok (.aload_n 0, 1) := by decide +kernel
theorem d_Cur_open_1 : decode m_Cur_open.2.1 1 = .ok (.iload_n 1, 1) := by decide +kernel
theorem d_Cur_open_2 : decode m_Cur_open.2.1 2 = .ok (.putfield 9, 3) := by decide +kernel
theorem d_Cur_open_5 : decode m_Cur_open.2.1 5 = .ok (.aload_n 0, 1) := by decide +kernel
theorem d_Cur_open_6 : decode m_Cur_open.2.1 6 = .ok (.iconst 0, 1) := by decide +kernel
theorem d_Cur_open_7 : decode m_Cur_open.2.1 7 = .ok (.putfield 15, 3) := by decide +kernel
theorem d_Cur_open_10 : decode m_Cur_open.2.1 10 = .ok (.return_, 1) := by decide +kernel
theorem d_Cur_isShut_0 : decode m_Cur_isShut.2.1 0 = .ok (.aload_n 0, 1) := by decide +kernel
theorem d_Cur_isShut_1 : decode m_Cur_isShut.2.1 1 = .ok (.getfield 9, 3) := by decide +kernel
theorem d_Cur_isShut_4 : decode m_Cur_isShut.2.1 4 = .ok (.iconst (-1), 1) := by decide +kernel
theorem d_Cur_isShut_5 : decode m_Cur_isShut.2.1 5 = .ok (.if_icmp .ne 7, 3) := by decide +kernel
theorem d_Cur_isShut_8 : decode m_Cur_isShut.2.1 8 = .ok (.iconst 1, 1) := by decide +kernel
theorem d_Cur_isShut_9 : decode m_Cur_isShut.2.1 9 = .ok (.goto 4, 3) := by decide +kernel
theorem d_Cur_isShut_12 : decode m_Cur_isShut.2.1 12 = .ok (.iconst 0, 1) := by decide +kernel
theorem d_Cur_isShut_13 : decode m_Cur_isShut.2.1 13 = .ok (.ireturn, 1) := by decide +kernel
theorem d_Kin_takes_0 : decode m_Kin_takes.2.1 0 = .ok (.iload_n 0, 1) := by decide +kernel
theorem d_Kin_takes_1 : decode m_Kin_takes.2.1 1 = .ok (.tableswitch 98 1 7 #[43, 49, 55, 62, 68, 75, 82], 43) := by decide +kernel
theorem d_Kin_takes_44 : decode m_Kin_takes.2.1 44 = .ok (.iload_n 1, 1) := by decide +kernel
theorem d_Kin_takes_45 : decode m_Kin_takes.2.1 45 = .ok (.iconst 3, 1) := by decide +kernel
theorem d_Kin_takes_46 : decode m_Kin_takes.2.1 46 = .ok (.invokestatic 9, 3) := by decide +kernel
theorem d_Kin_takes_49 : decode m_Kin_takes.2.1 49 = .ok (.ireturn, 1) := by decide +kernel
theorem d_Kin_takes_50 : decode m_Kin_takes.2.1 50 = .ok (.iload_n 1, 1) := by decide +kernel
theorem d_Kin_takes_51 : decode m_Kin_takes.2.1 51 = .ok (.iconst 3, 1) := by decide +kernel
theorem d_Kin_takes_52 : decode m_Kin_takes.2.1 52 = .ok (.invokestatic 9, 3) := by decide +kernel
theorem d_Kin_takes_55 : decode m_Kin_takes.2.1 55 = .ok (.ireturn, 1) := by decide +kernel
theorem d_Kin_takes_56 : decode m_Kin_takes.2.1 56 = .ok (.iload_n 1, 1) := by decide +kernel
theorem d_Kin_takes_57 : decode m_Kin_takes.2.1 57 = .ok (.bipush 61, 2) := by decide +kernel
theorem d_Kin_takes_59 : decode m_Kin_takes.2.1 59 = .ok (.invokestatic 9, 3) := by decide +kernel
theorem d_Kin_takes_62 : decode m_Kin_takes.2.1 62 = .ok (.ireturn, 1) := by decide +kernel
theorem d_Kin_takes_63 : decode m_Kin_takes.2.1 63 = .ok (.iload_n 1, 1) := by decide +kernel
theorem d_Kin_takes_64 : decode m_Kin_takes.2.1 64 = .ok (.iconst 4, 1) := by decide +kernel
theorem d_Kin_takes_65 : decode m_Kin_takes.2.1 65 = .ok (.invokestatic 9, 3) := by decide +kernel
theorem d_Kin_takes_68 : decode m_Kin_takes.2.1 68 = .ok (.ireturn, 1) := by decide +kernel
theorem d_Kin_takes_69 : decode m_Kin_takes.2.1 69 = .ok (.iload_n 1, 1) := by decide +kernel
theorem d_Kin_takes_70 : decode m_Kin_takes.2.1 70 = .ok (.bipush 16, 2) := by decide +kernel
theorem d_Kin_takes_72 : decode m_Kin_takes.2.1 72 = .ok (.invokestatic 9, 3) := by decide +kernel
theorem d_Kin_takes_75 : decode m_Kin_takes.2.1 75 = .ok (.ireturn, 1) := by decide +kernel
theorem d_Kin_takes_76 : decode m_Kin_takes.2.1 76 = .ok (.iload_n 1, 1) := by decide +kernel
theorem d_Kin_takes_77 : decode m_Kin_takes.2.1 77 = .ok (.bipush 12, 2) := by decide +kernel
theorem d_Kin_takes_79 : decode m_Kin_takes.2.1 79 = .ok (.invokestatic 9, 3) := by decide +kernel
theorem d_Kin_takes_82 : decode m_Kin_takes.2.1 82 = .ok (.ireturn, 1) := by decide +kernel
theorem d_Kin_takes_83 : decode m_Kin_takes.2.1 83 = .ok (.iload_n 1, 1) := by decide +kernel
theorem d_Kin_takes_84 : decode m_Kin_takes.2.1 84 = .ok (.iconst 1, 1) := by decide +kernel
theorem d_Kin_takes_85 : decode m_Kin_takes.2.1 85 = .ok (.if_icmp .lt 12, 3) := by decide +kernel
theorem d_Kin_takes_88 : decode m_Kin_takes.2.1 88 = .ok (.iload_n 1, 1) := by decide +kernel
theorem d_Kin_takes_89 : decode m_Kin_takes.2.1 89 = .ok (.iconst 4, 1) := by decide +kernel
theorem d_Kin_takes_90 : decode m_Kin_takes.2.1 90 = .ok (.if_icmp .gt 7, 3) := by decide +kernel
theorem d_Kin_takes_93 : decode m_Kin_takes.2.1 93 = .ok (.iconst 1, 1) := by decide +kernel
theorem d_Kin_takes_94 : decode m_Kin_takes.2.1 94 = .ok (.goto 4, 3) := by decide +kernel
theorem d_Kin_takes_97 : decode m_Kin_takes.2.1 97 = .ok (.iconst 0, 1) := by decide +kernel
theorem d_Kin_takes_98 : decode m_Kin_takes.2.1 98 = .ok (.ireturn, 1) := by decide +kernel
theorem d_Kin_takes_99 : decode m_Kin_takes.2.1 99 = .ok (.iconst 1, 1) := by decide +kernel
theorem d_Kin_takes_100 : decode m_Kin_takes.2.1 100 = .ok (.ireturn, 1) := by decide +kernel
theorem d_Op_accepts_0 : decode m_Op_accepts.2.1 0 = .ok (.iload_n 0, 1) := by decide +kernel
theorem d_Op_accepts_1 : decode m_Op_accepts.2.1 1 = .ok (.bipush 22, 2) := by decide +kernel
theorem d_Op_accepts_3 : decode m_Op_accepts.2.1 3 = .ok (.invokestatic 15, 3) := by decide +kernel
theorem d_Op_accepts_6 : decode m_Op_accepts.2.1 6 = .ok (.ifCond .ne 5, 3) := by decide +kernel
theorem d_Op_accepts_9 : decode m_Op_accepts.2.1 9 = .ok (.iconst 0, 1) := by decide +kernel
theorem d_Op_accepts_10 : decode m_Op_accepts.2.1 10 = .ok (.ireturn, 1) := by decide +kernel
theorem d_Op_accepts_11 : decode m_Op_accepts.2.1 11 = .ok (.iload_n 0, 1) := by decide +kernel
theorem d_Op_accepts_12 : decode m_Op_accepts.2.1 12 = .ok (.iconst 0, 1) := by decide +kernel
theorem d_Op_accepts_13 : decode m_Op_accepts.2.1 13 = .ok (.invokestatic 19, 3) := by decide +kernel
theorem d_Op_accepts_16 : decode m_Op_accepts.2.1 16 = .ok (.iload_n 1, 1) := by decide +kernel
theorem d_Op_accepts_17 : decode m_Op_accepts.2.1 17 = .ok (.invokestatic 23, 3) := by decide +kernel
theorem d_Op_accepts_20 : decode m_Op_accepts.2.1 20 = .ok (.ifCond .eq 27, 3) := by decide +kernel
theorem d_Op_accepts_23 : decode m_Op_accepts.2.1 23 = .ok (.iload_n 0, 1) := by decide +kernel
theorem d_Op_accepts_24 : decode m_Op_accepts.2.1 24 = .ok (.iconst 1, 1) := by decide +kernel
theorem d_Op_accepts_25 : decode m_Op_accepts.2.1 25 = .ok (.invokestatic 19, 3) := by decide +kernel
theorem d_Op_accepts_28 : decode m_Op_accepts.2.1 28 = .ok (.iload_n 2, 1) := by decide +kernel
theorem d_Op_accepts_29 : decode m_Op_accepts.2.1 29 = .ok (.invokestatic 23, 3) := by decide +kernel
theorem d_Op_accepts_32 : decode m_Op_accepts.2.1 32 = .ok (.ifCond .eq 15, 3) := by decide +kernel
theorem d_Op_accepts_35 : decode m_Op_accepts.2.1 35 = .ok (.iload_n 0, 1) := by decide +kernel
theorem d_Op_accepts_36 : decode m_Op_accepts.2.1 36 = .ok (.iconst 2, 1) := by decide +kernel
theorem d_Op_accepts_37 : decode m_Op_accepts.2.1 37 = .ok (.invokestatic 19, 3) := by decide +kernel
theorem d_Op_accepts_40 : decode m_Op_accepts.2.1 40 = .ok (.iload_n 3, 1) := by decide +kernel
theorem d_Op_accepts_41 : decode m_Op_accepts.2.1 41 = .ok (.invokestatic 23, 3) := by decide +kernel
theorem d_Op_accepts_44 : decode m_Op_accepts.2.1 44 = .ok (.ifCond .ne 5, 3) := by decide +kernel
theorem d_Op_accepts_47 : decode m_Op_accepts.2.1 47 = .ok (.iconst 0, 1) := by decide +kernel
theorem d_Op_accepts_48 : decode m_Op_accepts.2.1 48 = .ok (.ireturn, 1) := by decide +kernel
theorem d_Op_accepts_49 : decode m_Op_accepts.2.1 49 = .ok (.iload_n 0, 1) := by decide +kernel
theorem d_Op_accepts_50 : decode m_Op_accepts.2.1 50 = .ok (.bipush 18, 2) := by decide +kernel
theorem d_Op_accepts_52 : decode m_Op_accepts.2.1 52 = .ok (.if_icmp .ne 11, 3) := by decide +kernel
theorem d_Op_accepts_55 : decode m_Op_accepts.2.1 55 = .ok (.iload_n 1, 1) := by decide +kernel
theorem d_Op_accepts_56 : decode m_Op_accepts.2.1 56 = .ok (.iload_n 2, 1) := by decide +kernel
theorem d_Op_accepts_57 : decode m_Op_accepts.2.1 57 = .ok (.iadd, 1) := by decide +kernel
theorem d_Op_accepts_58 : decode m_Op_accepts.2.1 58 = .ok (.bipush 16, 2) := by decide +kernel
theorem d_Op_accepts_60 : decode m_Op_accepts.2.1 60 = .ok (.if_icmp .gt 7, 3) := by decide +kernel
theorem d_Op_accepts_63 : decode m_Op_accepts.2.1 63 = .ok (.iconst 1, 1) := by decide +kernel
theorem d_Op_accepts_64 : decode m_Op_accepts.2.1 64 = .ok (.goto 4, 3) := by decide +kernel
theorem d_Op_accepts_67 : decode m_Op_accepts.2.1 67 = .ok (.iconst 0, 1) := by decide +kernel
theorem d_Op_accepts_68 : decode m_Op_accepts.2.1 68 = .ok (.ireturn, 1) := by decide +kernel
theorem d_Op_kind_0 : decode m_Op_kind.2.1 0 = .ok (.getstatic 9, 3) := by decide +kernel
theorem d_Op_kind_3 : decode m_Op_kind.2.1 3 = .ok (.iload_n 0, 1) := by decide +kernel
theorem d_Op_kind_4 : decode m_Op_kind.2.1 4 = .ok (.iconst 3, 1) := by decide +kernel
theorem d_Op_kind_5 : decode m_Op_kind.2.1 5 = .ok (.imul, 1) := by decide +kernel
theorem d_Op_kind_6 : decode m_Op_kind.2.1 6 = .ok (.iload_n 1, 1) := by decide +kernel
theorem d_Op_kind_7 : decode m_Op_kind.2.1 7 = .ok (.iadd, 1) := by decide +kernel
theorem d_Op_kind_8 : decode m_Op_kind.2.1 8 = .ok (.iaload, 1) := by decide +kernel
theorem d_Op_kind_9 : decode m_Op_kind.2.1 9 = .ok (.ireturn, 1) := by decide +kernel
theorem d_Op_kept_0 : decode m_Op_kept.2.1 0 = .ok (.iload_n 0, 1) := by decide +kernel
theorem d_Op_kept_1 : decode m_Op_kept.2.1 1 = .ok (.iload_n 1, 1) := by decide +kernel
theorem d_Op_kept_2 : decode m_Op_kept.2.1 2 = .ok (.invokestatic 19, 3) := by decide +kernel
theorem d_Op_kept_5 : decode m_Op_kept.2.1 5 = .ok (.ifCond .ne 7, 3) := by decide +kernel
theorem d_Op_kept_8 : decode m_Op_kept.2.1 8 = .ok (.iconst 0, 1) := by decide +kernel
theorem d_Op_kept_9 : decode m_Op_kept.2.1 9 = .ok (.goto 4, 3) := by decide +kernel
theorem d_Op_kept_12 : decode m_Op_kept.2.1 12 = .ok (.iload_n 2, 1) := by decide +kernel
theorem d_Op_kept_13 : decode m_Op_kept.2.1 13 = .ok (.ireturn, 1) := by decide +kernel
theorem d_Op_needsOpenCursor_0 : decode m_Op_needsOpenCursor.2.1 0 = .ok (.iload_n 0, 1) := by decide +kernel
theorem d_Op_needsOpenCursor_1 : decode m_Op_needsOpenCursor.2.1 1 = .ok (.iconst 1, 1) := by decide +kernel
theorem d_Op_needsOpenCursor_2 : decode m_Op_needsOpenCursor.2.1 2 = .ok (.if_icmp .eq 16, 3) := by decide +kernel
theorem d_Op_needsOpenCursor_5 : decode m_Op_needsOpenCursor.2.1 5 = .ok (.iload_n 0, 1) := by decide +kernel
theorem d_Op_needsOpenCursor_6 : decode m_Op_needsOpenCursor.2.1 6 = .ok (.iconst 0, 1) := by decide +kernel
theorem d_Op_needsOpenCursor_7 : decode m_Op_needsOpenCursor.2.1 7 = .ok (.invokestatic 19, 3) := by decide +kernel
theorem d_Op_needsOpenCursor_10 : decode m_Op_needsOpenCursor.2.1 10 = .ok (.iconst 1, 1) := by decide +kernel
theorem d_Op_needsOpenCursor_11 : decode m_Op_needsOpenCursor.2.1 11 = .ok (.if_icmp .ne 7, 3) := by decide +kernel
theorem d_Op_needsOpenCursor_14 : decode m_Op_needsOpenCursor.2.1 14 = .ok (.iconst 1, 1) := by decide +kernel
theorem d_Op_needsOpenCursor_15 : decode m_Op_needsOpenCursor.2.1 15 = .ok (.goto 4, 3) := by decide +kernel
theorem d_Op_needsOpenCursor_18 : decode m_Op_needsOpenCursor.2.1 18 = .ok (.iconst 0, 1) := by decide +kernel
theorem d_Op_needsOpenCursor_19 : decode m_Op_needsOpenCursor.2.1 19 = .ok (.ireturn, 1) := by decide +kernel
theorem d_Pro_init_0 : decode m_Pro_init.2.1 0 = .ok (.aload_n 0, 1) := by decide +kernel
theorem d_Pro_init_1 : decode m_Pro_init.2.1 1 = .ok (.invokespecial 3, 3) := by decide +kernel
theorem d_Pro_init_4 : decode m_Pro_init.2.1 4 = .ok (.aload_n 0, 1) := by decide +kernel
theorem d_Pro_init_5 : decode m_Pro_init.2.1 5 = .ok (.iconst 0, 1) := by decide +kernel
theorem d_Pro_init_6 : decode m_Pro_init.2.1 6 = .ok (.putfield 9, 3) := by decide +kernel
theorem d_Pro_init_9 : decode m_Pro_init.2.1 9 = .ok (.aload_n 0, 1) := by decide +kernel
theorem d_Pro_init_10 : decode m_Pro_init.2.1 10 = .ok (.sipush 240, 3) := by decide +kernel
theorem d_Pro_init_13 : decode m_Pro_init.2.1 13 = .ok (.newarray .int, 2) := by decide +kernel
theorem d_Pro_init_15 : decode m_Pro_init.2.1 15 = .ok (.putfield 15, 3) := by decide +kernel
theorem d_Pro_init_18 : decode m_Pro_init.2.1 18 = .ok (.return_, 1) := by decide +kernel
theorem d_Pro_append_0 : decode m_Pro_append.2.1 0 = .ok (.aload_n 0, 1) := by decide +kernel
theorem d_Pro_append_1 : decode m_Pro_append.2.1 1 = .ok (.getfield 9, 3) := by decide +kernel
theorem d_Pro_append_4 : decode m_Pro_append.2.1 4 = .ok (.iconst 4, 1) := by decide +kernel
theorem d_Pro_append_5 : decode m_Pro_append.2.1 5 = .ok (.imul, 1) := by decide +kernel
theorem d_Pro_append_6 : decode m_Pro_append.2.1 6 = .ok (.istore 5, 2) := by decide +kernel
theorem d_Pro_append_8 : decode m_Pro_append.2.1 8 = .ok (.aload_n 0, 1) := by decide +kernel
theorem d_Pro_append_9 : decode m_Pro_append.2.1 9 = .ok (.getfield 15, 3) := by decide +kernel
theorem d_Pro_append_12 : decode m_Pro_append.2.1 12 = .ok (.iload 5, 2) := by decide +kernel
theorem d_Pro_append_14 : decode m_Pro_append.2.1 14 = .ok (.iload_n 1, 1) := by decide +kernel
theorem d_Pro_append_15 : decode m_Pro_append.2.1 15 = .ok (.iastore, 1) := by decide +kernel
theorem d_Pro_append_16 : decode m_Pro_append.2.1 16 = .ok (.aload_n 0, 1) := by decide +kernel
theorem d_Pro_append_17 : decode m_Pro_append.2.1 17 = .ok (.getfield 15, 3) := by decide +kernel
theorem d_Pro_append_20 : decode m_Pro_append.2.1 20 = .ok (.iload 5, 2) := by decide +kernel
theorem d_Pro_append_22 : decode m_Pro_append.2.1 22 = .ok (.iconst 1, 1) := by decide +kernel
theorem d_Pro_append_23 : decode m_Pro_append.2.1 23 = .ok (.iadd, 1) := by decide +kernel
theorem d_Pro_append_24 : decode m_Pro_append.2.1 24 = .ok (.iload_n 2, 1) := by decide +kernel
theorem d_Pro_append_25 : decode m_Pro_append.2.1 25 = .ok (.iastore, 1) := by decide +kernel
theorem d_Pro_append_26 : decode m_Pro_append.2.1 26 = .ok (.aload_n 0, 1) := by decide +kernel
theorem d_Pro_append_27 : decode m_Pro_append.2.1 27 = .ok (.getfield 15, 3) := by decide +kernel
theorem d_Pro_append_30 : decode m_Pro_append.2.1 30 = .ok (.iload 5, 2) := by decide +kernel
theorem d_Pro_append_32 : decode m_Pro_append.2.1 32 = .ok (.iconst 2, 1) := by decide +kernel
theorem d_Pro_append_33 : decode m_Pro_append.2.1 33 = .ok (.iadd, 1) := by decide +kernel
theorem d_Pro_append_34 : decode m_Pro_append.2.1 34 = .ok (.iload_n 3, 1) := by decide +kernel
theorem d_Pro_append_35 : decode m_Pro_append.2.1 35 = .ok (.iastore, 1) := by decide +kernel
theorem d_Pro_append_36 : decode m_Pro_append.2.1 36 = .ok (.aload_n 0, 1) := by decide +kernel
theorem d_Pro_append_37 : decode m_Pro_append.2.1 37 = .ok (.getfield 15, 3) := by decide +kernel
theorem d_Pro_append_40 : decode m_Pro_append.2.1 40 = .ok (.iload 5, 2) := by decide +kernel
theorem d_Pro_append_42 : decode m_Pro_append.2.1 42 = .ok (.iconst 3, 1) := by decide +kernel
theorem d_Pro_append_43 : decode m_Pro_append.2.1 43 = .ok (.iadd, 1) := by decide +kernel
theorem d_Pro_append_44 : decode m_Pro_append.2.1 44 = .ok (.iload 4, 2) := by decide +kernel
theorem d_Pro_append_46 : decode m_Pro_append.2.1 46 = .ok (.iastore, 1) := by decide +kernel
theorem d_Pro_append_47 : decode m_Pro_append.2.1 47 = .ok (.aload_n 0, 1) := by decide +kernel
theorem d_Pro_append_48 : decode m_Pro_append.2.1 48 = .ok (.dup, 1) := by decide +kernel
theorem d_Pro_append_49 : decode m_Pro_append.2.1 49 = .ok (.getfield 9, 3) := by decide +kernel
theorem d_Pro_append_52 : decode m_Pro_append.2.1 52 = .ok (.iconst 1, 1) := by decide +kernel
theorem d_Pro_append_53 : decode m_Pro_append.2.1 53 = .ok (.iadd, 1) := by decide +kernel
theorem d_Pro_append_54 : decode m_Pro_append.2.1 54 = .ok (.putfield 9, 3) := by decide +kernel
theorem d_Pro_append_57 : decode m_Pro_append.2.1 57 = .ok (.return_, 1) := by decide +kernel
theorem d_Pro_word_0 : decode m_Pro_word.2.1 0 = .ok (.aload_n 0, 1) := by decide +kernel
theorem d_Pro_word_1 : decode m_Pro_word.2.1 1 = .ok (.getfield 15, 3) := by decide +kernel
theorem d_Pro_word_4 : decode m_Pro_word.2.1 4 = .ok (.iload_n 1, 1) := by decide +kernel
theorem d_Pro_word_5 : decode m_Pro_word.2.1 5 = .ok (.iconst 4, 1) := by decide +kernel
theorem d_Pro_word_6 : decode m_Pro_word.2.1 6 = .ok (.imul, 1) := by decide +kernel
theorem d_Pro_word_7 : decode m_Pro_word.2.1 7 = .ok (.iload_n 2, 1) := by decide +kernel
theorem d_Pro_word_8 : decode m_Pro_word.2.1 8 = .ok (.iadd, 1) := by decide +kernel
theorem d_Pro_word_9 : decode m_Pro_word.2.1 9 = .ok (.iaload, 1) := by decide +kernel
theorem d_Pro_word_10 : decode m_Pro_word.2.1 10 = .ok (.ireturn, 1) := by decide +kernel
theorem d_Pro_isSound_0 : decode m_Pro_isSound.2.1 0 = .ok (.iconst 0, 1) := by decide +kernel
theorem d_Pro_isSound_1 : decode m_Pro_isSound.2.1 1 = .ok (.istore_n 2, 1) := by decide +kernel
theorem d_Pro_isSound_2 : decode m_Pro_isSound.2.1 2 = .ok (.iload_n 2, 1) := by decide +kernel
theorem d_Pro_isSound_3 : decode m_Pro_isSound.2.1 3 = .ok (.aload_n 0, 1) := by decide +kernel
theorem d_Pro_isSound_4 : decode m_Pro_isSound.2.1 4 = .ok (.getfield 9, 3) := by decide +kernel
theorem d_Pro_isSound_7 : decode m_Pro_isSound.2.1 7 = .ok (.if_icmp .ge 75, 3) := by decide +kernel
theorem d_Pro_isSound_10 : decode m_Pro_isSound.2.1 10 = .ok (.iconst 1, 1) := by decide +kernel
theorem d_Pro_isSound_11 : decode m_Pro_isSound.2.1 11 = .ok (.istore_n 3, 1) := by decide +kernel
theorem d_Pro_isSound_12 : decode m_Pro_isSound.2.1 12 = .ok (.iload_n 3, 1) := by decide +kernel
theorem d_Pro_isSound_13 : decode m_Pro_isSound.2.1 13 = .ok (.iconst 4, 1) := by decide +kernel
theorem d_Pro_isSound_14 : decode m_Pro_isSound.2.1 14 = .ok (.if_icmp .ge 62, 3) := by decide +kernel
theorem d_Pro_isSound_17 : decode m_Pro_isSound.2.1 17 = .ok (.aload_n 0, 1) := by decide +kernel
theorem d_Pro_isSound_18 : decode m_Pro_isSound.2.1 18 = .ok (.iload_n 2, 1) := by decide +kernel
theorem d_Pro_isSound_19 : decode m_Pro_isSound.2.1 19 = .ok (.iconst 0, 1) := by decide +kernel
theorem d_Pro_isSound_20 : decode m_Pro_isSound.2.1 20 = .ok (.invokevirtual 19, 3) := by decide +kernel
theorem d_Pro_isSound_23 : decode m_Pro_isSound.2.1 23 = .ok (.iload_n 3, 1) := by decide +kernel
theorem d_Pro_isSound_24 : decode m_Pro_isSound.2.1 24 = .ok (.iconst 1, 1) := by decide +kernel
theorem d_Pro_isSound_25 : decode m_Pro_isSound.2.1 25 = .ok (.isub, 1) := by decide +kernel
theorem d_Pro_isSound_26 : decode m_Pro_isSound.2.1 26 = .ok (.invokestatic 23, 3) := by decide +kernel
theorem d_Pro_isSound_29 : decode m_Pro_isSound.2.1 29 = .ok (.istore 4, 2) := by decide +kernel
theorem d_Pro_isSound_31 : decode m_Pro_isSound.2.1 31 = .ok (.iload 4, 2) := by decide +kernel
theorem d_Pro_isSound_33 : decode m_Pro_isSound.2.1 33 = .ok (.iconst 2, 1) := by decide +kernel
theorem d_Pro_isSound_34 : decode m_Pro_isSound.2.1 34 = .ok (.if_icmp .ne 15, 3) := by decide +kernel
theorem d_Pro_isSound_37 : decode m_Pro_isSound.2.1 37 = .ok (.aload_n 0, 1) := by decide +kernel
theorem d_Pro_isSound_38 : decode m_Pro_isSound.2.1 38 = .ok (.iload_n 2, 1) := by decide +kernel
theorem d_Pro_isSound_39 : decode m_Pro_isSound.2.1 39 = .ok (.iload_n 3, 1) := by decide +kernel
theorem d_Pro_isSound_40 : decode m_Pro_isSound.2.1 40 = .ok (.invokevirtual 19, 3) := by decide +kernel
theorem d_Pro_isSound_43 : decode m_Pro_isSound.2.1 43 = .ok (.iload_n 1, 1) := by decide +kernel
theorem d_Pro_isSound_44 : decode m_Pro_isSound.2.1 44 = .ok (.if_icmp .lt 5, 3) := by decide +kernel
theorem d_Pro_isSound_47 : decode m_Pro_isSound.2.1 47 = .ok (.iconst 0, 1) := by decide +kernel
theorem d_Pro_isSound_48 : decode m_Pro_isSound.2.1 48 = .ok (.ireturn, 1) := by decide +kernel
theorem d_Pro_isSound_49 : decode m_Pro_isSound.2.1 49 = .ok (.iload 4, 2) := by decide +kernel
theorem d_Pro_isSound_51 : decode m_Pro_isSound.2.1 51 = .ok (.iconst 3, 1) := by decide +kernel
theorem d_Pro_isSound_52 : decode m_Pro_isSound.2.1 52 = .ok (.if_icmp .ne 18, 3) := by decide +kernel
theorem d_Pro_isSound_55 : decode m_Pro_isSound.2.1 55 = .ok (.aload_n 0, 1) := by decide +kernel
theorem d_Pro_isSound_56 : decode m_Pro_isSound.2.1 56 = .ok (.iload_n 2, 1) := by decide +kernel
theorem d_Pro_isSound_57 : decode m_Pro_isSound.2.1 57 = .ok (.iload_n 3, 1) := by decide +kernel
theorem d_Pro_isSound_58 : decode m_Pro_isSound.2.1 58 = .ok (.invokevirtual 19, 3) := by decide +kernel
theorem d_Pro_isSound_61 : decode m_Pro_isSound.2.1 61 = .ok (.aload_n 0, 1) := by decide +kernel
theorem d_Pro_isSound_62 : decode m_Pro_isSound.2.1 62 = .ok (.getfield 9, 3) := by decide +kernel
theorem d_Pro_isSound_65 : decode m_Pro_isSound.2.1 65 = .ok (.if_icmp .le 5, 3) := by decide +kernel
theorem d_Pro_isSound_68 : decode m_Pro_isSound.2.1 68 = .ok (.iconst 0, 1) := by decide +kernel
theorem d_Pro_isSound_69 : decode m_Pro_isSound.2.1 69 = .ok (.ireturn, 1) := by decide +kernel
theorem d_Pro_isSound_70 : decode m_Pro_isSound.2.1 70 = .ok (.iinc 3 1, 3) := by decide +kernel
theorem d_Pro_isSound_73 : decode m_Pro_isSound.2.1 73 = .ok (.goto (-61), 3) := by decide +kernel
theorem d_Pro_isSound_76 : decode m_Pro_isSound.2.1 76 = .ok (.iinc 2 1, 3) := by decide +kernel
theorem d_Pro_isSound_79 : decode m_Pro_isSound.2.1 79 = .ok (.goto (-77), 3) := by decide +kernel
theorem d_Pro_isSound_82 : decode m_Pro_isSound.2.1 82 = .ok (.iconst 1, 1) := by decide +kernel
theorem d_Pro_isSound_83 : decode m_Pro_isSound.2.1 83 = .ok (.ireturn, 1) := by decide +kernel
theorem d_Res_init_0 : decode m_Res_init.2.1 0 = .ok (.aload_n 0, 1) := by decide +kernel
theorem d_Res_init_1 : decode m_Res_init.2.1 1 = .ok (.invokespecial 3, 3) := by decide +kernel
theorem d_Res_init_4 : decode m_Res_init.2.1 4 = .ok (.aload_n 0, 1) := by decide +kernel
theorem d_Res_init_5 : decode m_Res_init.2.1 5 = .ok (.iconst 0, 1) := by decide +kernel
theorem d_Res_init_6 : decode m_Res_init.2.1 6 = .ok (.putfield 9, 3) := by decide +kernel
theorem d_Res_init_9 : decode m_Res_init.2.1 9 = .ok (.aload_n 0, 1) := by decide +kernel
theorem d_Res_init_10 : decode m_Res_init.2.1 10 = .ok (.bipush 64, 2) := by decide +kernel
theorem d_Res_init_12 : decode m_Res_init.2.1 12 = .ok (.newarray .int, 2) := by decide +kernel
theorem d_Res_init_14 : decode m_Res_init.2.1 14 = .ok (.putfield 15, 3) := by decide +kernel
theorem d_Res_init_17 : decode m_Res_init.2.1 17 = .ok (.aload_n 0, 1) := by decide +kernel
theorem d_Res_init_18 : decode m_Res_init.2.1 18 = .ok (.new 19, 3) := by decide +kernel
theorem d_Res_init_21 : decode m_Res_init.2.1 21 = .ok (.dup, 1) := by decide +kernel
theorem d_Res_init_22 : decode m_Res_init.2.1 22 = .ok (.sipush 256, 3) := by decide +kernel
theorem d_Res_init_25 : decode m_Res_init.2.1 25 = .ok (.invokespecial 21, 3) := by decide +kernel
theorem d_Res_init_28 : decode m_Res_init.2.1 28 = .ok (.putfield 24, 3) := by decide +kernel
theorem d_Res_init_31 : decode m_Res_init.2.1 31 = .ok (.return_, 1) := by decide +kernel
theorem d_Res_take_0 : decode m_Res_take.2.1 0 = .ok (.aload_n 0, 1) := by decide +kernel
theorem d_Res_take_1 : decode m_Res_take.2.1 1 = .ok (.getfield 9, 3) := by decide +kernel
theorem d_Res_take_4 : decode m_Res_take.2.1 4 = .ok (.bipush 64, 2) := by decide +kernel
theorem d_Res_take_6 : decode m_Res_take.2.1 6 = .ok (.if_icmp .ne 5, 3) := by decide +kernel
theorem d_Res_take_9 : decode m_Res_take.2.1 9 = .ok (.iconst 0, 1) := by decide +kernel
theorem d_Res_take_10 : decode m_Res_take.2.1 10 = .ok (.ireturn, 1) := by decide +kernel
theorem d_Res_take_11 : decode m_Res_take.2.1 11 = .ok (.aload_n 0, 1) := by decide +kernel
theorem d_Res_take_12 : decode m_Res_take.2.1 12 = .ok (.getfield 15, 3) := by decide +kernel
theorem d_Res_take_15 : decode m_Res_take.2.1 15 = .ok (.aload_n 0, 1) := by decide +kernel
theorem d_Res_take_16 : decode m_Res_take.2.1 16 = .ok (.getfield 9, 3) := by decide +kernel
theorem d_Res_take_19 : decode m_Res_take.2.1 19 = .ok (.iload_n 3, 1) := by decide +kernel
theorem d_Res_take_20 : decode m_Res_take.2.1 20 = .ok (.iastore, 1) := by decide +kernel
theorem d_Res_take_21 : decode m_Res_take.2.1 21 = .ok (.iconst 0, 1) := by decide +kernel
theorem d_Res_take_22 : decode m_Res_take.2.1 22 = .ok (.istore 4, 2) := by decide +kernel
theorem d_Res_take_24 : decode m_Res_take.2.1 24 = .ok (.iload 4, 2) := by decide +kernel
theorem d_Res_take_26 : decode m_Res_take.2.1 26 = .ok (.iload_n 3, 1) := by decide +kernel
theorem d_Res_take_27 : decode m_Res_take.2.1 27 = .ok (.if_icmp .ge 30, 3) := by decide +kernel
theorem d_Res_take_30 : decode m_Res_take.2.1 30 = .ok (.aload_n 0, 1) := by decide +kernel
theorem d_Res_take_31 : decode m_Res_take.2.1 31 = .ok (.getfield 24, 3) := by decide +kernel
theorem d_Res_take_34 : decode m_Res_take.2.1 34 = .ok (.aload_n 0, 1) := by decide +kernel
theorem d_Res_take_35 : decode m_Res_take.2.1 35 = .ok (.getfield 9, 3) := by decide +kernel
theorem d_Res_take_38 : decode m_Res_take.2.1 38 = .ok (.iconst 4, 1) := by decide +kernel
theorem d_Res_take_39 : decode m_Res_take.2.1 39 = .ok (.imul, 1) := by decide +kernel
theorem d_Res_take_40 : decode m_Res_take.2.1 40 = .ok (.iload 4, 2) := by decide +kernel
theorem d_Res_take_42 : decode m_Res_take.2.1 42 = .ok (.iadd, 1) := by decide +kernel
theorem d_Res_take_43 : decode m_Res_take.2.1 43 = .ok (.aload_n 1, 1) := by decide +kernel
theorem d_Res_take_44 : decode m_Res_take.2.1 44 = .ok (.iload_n 2, 1) := by decide +kernel
theorem d_Res_take_45 : decode m_Res_take.2.1 45 = .ok (.iload 4, 2) := by decide +kernel
theorem d_Res_take_47 : decode m_Res_take.2.1 47 = .ok (.iadd, 1) := by decide +kernel
theorem d_Res_take_48 : decode m_Res_take.2.1 48 = .ok (.invokevirtual 32, 3) := by decide +kernel
theorem d_Res_take_51 : decode m_Res_take.2.1 51 = .ok (.iinc 4 1, 3) := by decide +kernel
theorem d_Res_take_54 : decode m_Res_take.2.1 54 = .ok (.goto (-30), 3) := by decide +kernel
theorem d_Res_take_57 : decode m_Res_take.2.1 57 = .ok (.aload_n 0, 1) := by decide +kernel
theorem d_Res_take_58 : decode m_Res_take.2.1 58 = .ok (.dup, 1) := by decide +kernel
theorem d_Res_take_59 : decode m_Res_take.2.1 59 = .ok (.getfield 9, 3) := by decide +kernel
theorem d_Res_take_62 : decode m_Res_take.2.1 62 = .ok (.iconst 1, 1) := by decide +kernel
theorem d_Res_take_63 : decode m_Res_take.2.1 63 = .ok (.iadd, 1) := by decide +kernel
theorem d_Res_take_64 : decode m_Res_take.2.1 64 = .ok (.putfield 9, 3) := by decide +kernel
theorem d_Res_take_67 : decode m_Res_take.2.1 67 = .ok (.iconst 1, 1) := by decide +kernel
theorem d_Res_take_68 : decode m_Res_take.2.1 68 = .ok (.ireturn, 1) := by decide +kernel
theorem d_Res_hasRow_0 : decode m_Res_hasRow.2.1 0 = .ok (.iload_n 1, 1) := by decide +kernel
theorem d_Res_hasRow_1 : decode m_Res_hasRow.2.1 1 = .ok (.aload_n 0, 1) := by decide +kernel
theorem d_Res_hasRow_2 : decode m_Res_hasRow.2.1 2 = .ok (.getfield 9, 3) := by decide +kernel
theorem d_Res_hasRow_5 : decode m_Res_hasRow.2.1 5 = .ok (.invokestatic 28, 3) := by decide +kernel
theorem d_Res_hasRow_8 : decode m_Res_hasRow.2.1 8 = .ok (.ireturn, 1) := by decide +kernel
