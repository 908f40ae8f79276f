theorem d_Mac_init_0 : decode m_Mac_init.2.1 0 = .ok (.aload_n 0, 1) := by decide +kernel
theorem d_Mac_init_1 : decode m_Mac_init.2.1 1 = .ok (.invokespecial 3, 3) := by decide +kernel
theorem d_Mac_init_4 : decode m_Mac_init.2.1 4 = .ok (.aload_n 0, 1) := by decide +kernel
theorem d_Mac_init_5 : decode m_Mac_init.2.1 5 = .ok (.new 9, 3) := by decide +kernel
theorem d_Mac_init_8 : decode m_Mac_init.2.1 8 = .ok (.dup, 1) := by decide +kernel
theorem d_Mac_init_9 : decode m_Mac_init.2.1 9 = .ok (.invokespecial 11, 3) := by decide +kernel
theorem d_Mac_init_12 : decode m_Mac_init.2.1 12 = .ok (.putfield 12, 3) := by decide +kernel
theorem d_Mac_init_15 : decode m_Mac_init.2.1 15 = .ok (.aload_n 0, 1) := by decide +kernel
theorem d_Mac_init_16 : decode m_Mac_init.2.1 16 = .ok (.new 18, 3) := by decide +kernel
theorem d_Mac_init_19 : decode m_Mac_init.2.1 19 = .ok (.dup, 1) := by decide +kernel
theorem d_Mac_init_20 : decode m_Mac_init.2.1 20 = .ok (.invokespecial 20, 3) := by decide +kernel
theorem d_Mac_init_23 : decode m_Mac_init.2.1 23 = .ok (.putfield 21, 3) := by decide +kernel
theorem d_Mac_init_26 : decode m_Mac_init.2.1 26 = .ok (.aload_n 0, 1) := by decide +kernel
theorem d_Mac_init_27 : decode m_Mac_init.2.1 27 = .ok (.new 25, 3) := by decide +kernel
theorem d_Mac_init_30 : decode m_Mac_init.2.1 30 = .ok (.dup, 1) := by decide +kernel
theorem d_Mac_init_31 : decode m_Mac_init.2.1 31 = .ok (.invokespecial 27, 3) := by decide +kernel
theorem d_Mac_init_34 : decode m_Mac_init.2.1 34 = .ok (.putfield 28, 3) := by decide +kernel
theorem d_Mac_init_37 : decode m_Mac_init.2.1 37 = .ok (.aload_n 0, 1) := by decide +kernel
theorem d_Mac_init_38 : decode m_Mac_init.2.1 38 = .ok (.new 32, 3) := by decide +kernel
theorem d_Mac_init_41 : decode m_Mac_init.2.1 41 = .ok (.dup, 1) := by decide +kernel
theorem d_Mac_init_42 : decode m_Mac_init.2.1 42 = .ok (.bipush 16, 2) := by decide +kernel
theorem d_Mac_init_44 : decode m_Mac_init.2.1 44 = .ok (.invokespecial 34, 3) := by decide +kernel
theorem d_Mac_init_47 : decode m_Mac_init.2.1 47 = .ok (.putfield 37, 3) := by decide +kernel
theorem d_Mac_init_50 : decode m_Mac_init.2.1 50 = .ok (.aload_n 0, 1) := by decide +kernel
theorem d_Mac_init_51 : decode m_Mac_init.2.1 51 = .ok (.iconst 3, 1) := by decide +kernel
theorem d_Mac_init_52 : decode m_Mac_init.2.1 52 = .ok (.anewarray 41, 3) := by decide +kernel
theorem d_Mac_init_55 : decode m_Mac_init.2.1 55 = .ok (.putfield 43, 3) := by decide +kernel
theorem d_Mac_init_58 : decode m_Mac_init.2.1 58 = .ok (.aload_n 0, 1) := by decide +kernel
theorem d_Mac_init_59 : decode m_Mac_init.2.1 59 = .ok (.iconst 0, 1) := by decide +kernel
theorem d_Mac_init_60 : decode m_Mac_init.2.1 60 = .ok (.putfield 47, 3) := by decide +kernel
theorem d_Mac_init_63 : decode m_Mac_init.2.1 63 = .ok (.iconst 0, 1) := by decide +kernel
theorem d_Mac_init_64 : decode m_Mac_init.2.1 64 = .ok (.istore_n 1, 1) := by decide +kernel
theorem d_Mac_init_65 : decode m_Mac_init.2.1 65 = .ok (.iload_n 1, 1) := by decide +kernel
theorem d_Mac_init_66 : decode m_Mac_init.2.1 66 = .ok (.iconst 3, 1) := by decide +kernel
theorem d_Mac_init_67 : decode m_Mac_init.2.1 67 = .ok (.if_icmp .ge 22, 3) := by decide +kernel
theorem d_Mac_init_70 : decode m_Mac_init.2.1 70 = .ok (.aload_n 0, 1) := by decide +kernel
theorem d_Mac_init_71 : decode m_Mac_init.2.1 71 = .ok (.getfield 43, 3) := by decide +kernel
theorem d_Mac_init_74 : decode m_Mac_init.2.1 74 = .ok (.iload_n 1, 1) := by decide +kernel
theorem d_Mac_init_75 : decode m_Mac_init.2.1 75 = .ok (.new 41, 3) := by decide +kernel
theorem d_Mac_init_78 : decode m_Mac_init.2.1 78 = .ok (.dup, 1) := by decide +kernel
theorem d_Mac_init_79 : decode m_Mac_init.2.1 79 = .ok (.invokespecial 51, 3) := by decide +kernel
theorem d_Mac_init_82 : decode m_Mac_init.2.1 82 = .ok (.aastore, 1) := by decide +kernel
theorem d_Mac_init_83 : decode m_Mac_init.2.1 83 = .ok (.iinc 1 1, 3) := by decide +kernel
theorem d_Mac_init_86 : decode m_Mac_init.2.1 86 = .ok (.goto (-21), 3) := by decide +kernel
theorem d_Mac_init_89 : decode m_Mac_init.2.1 89 = .ok (.return_, 1) := by decide +kernel
theorem d_Mac_execute_0 : decode m_Mac_execute.2.1 0 = .ok (.aload_n 0, 1) := by decide +kernel
theorem d_Mac_execute_1 : decode m_Mac_execute.2.1 1 = .ok (.invokevirtual 52, 3) := by decide +kernel
theorem d_Mac_execute_4 : decode m_Mac_execute.2.1 4 = .ok (.iconst 0, 1) := by decide +kernel
theorem d_Mac_execute_5 : decode m_Mac_execute.2.1 5 = .ok (.istore_n 2, 1) := by decide +kernel
theorem d_Mac_execute_6 : decode m_Mac_execute.2.1 6 = .ok (.iconst 0, 1) := by decide +kernel
theorem d_Mac_execute_7 : decode m_Mac_execute.2.1 7 = .ok (.istore_n 3, 1) := by decide +kernel
theorem d_Mac_execute_8 : decode m_Mac_execute.2.1 8 = .ok (.iload_n 3, 1) := by decide +kernel
theorem d_Mac_execute_9 : decode m_Mac_execute.2.1 9 = .ok (.iload_n 1, 1) := by decide +kernel
theorem d_Mac_execute_10 : decode m_Mac_execute.2.1 10 = .ok (.if_icmp .ge 57, 3) := by decide +kernel
theorem d_Mac_execute_13 : decode m_Mac_execute.2.1 13 = .ok (.iload_n 2, 1) := by decide +kernel
theorem d_Mac_execute_14 : decode m_Mac_execute.2.1 14 = .ok (.aload_n 0, 1) := by decide +kernel
theorem d_Mac_execute_15 : decode m_Mac_execute.2.1 15 = .ok (.getfield 21, 3) := by decide +kernel
theorem d_Mac_execute_18 : decode m_Mac_execute.2.1 18 = .ok (.getfield 55, 3) := by decide +kernel
theorem d_Mac_execute_21 : decode m_Mac_execute.2.1 21 = .ok (.if_icmp .ge 46, 3) := by decide +kernel
theorem d_Mac_execute_24 : decode m_Mac_execute.2.1 24 = .ok (.aload_n 0, 1) := by decide +kernel
theorem d_Mac_execute_25 : decode m_Mac_execute.2.1 25 = .ok (.getfield 21, 3) := by decide +kernel
theorem d_Mac_execute_28 : decode m_Mac_execute.2.1 28 = .ok (.iload_n 2, 1) := by decide +kernel
theorem d_Mac_execute_29 : decode m_Mac_execute.2.1 29 = .ok (.iconst 0, 1) := by decide +kernel
theorem d_Mac_execute_30 : decode m_Mac_execute.2.1 30 = .ok (.invokevirtual 58, 3) := by decide +kernel
theorem d_Mac_execute_33 : decode m_Mac_execute.2.1 33 = .ok (.istore 4, 2) := by decide +kernel
theorem d_Mac_execute_35 : decode m_Mac_execute.2.1 35 = .ok (.iload 4, 2) := by decide +kernel
theorem d_Mac_execute_37 : decode m_Mac_execute.2.1 37 = .ok (.invokestatic 62, 3) := by decide +kernel
theorem d_Mac_execute_40 : decode m_Mac_execute.2.1 40 = .ok (.ifCond .eq 13, 3) := by decide +kernel
theorem d_Mac_execute_43 : decode m_Mac_execute.2.1 43 = .ok (.aload_n 0, 1) := by decide +kernel
theorem d_Mac_execute_44 : decode m_Mac_execute.2.1 44 = .ok (.iload 4, 2) := by decide +kernel
theorem d_Mac_execute_46 : decode m_Mac_execute.2.1 46 = .ok (.iload_n 2, 1) := by decide +kernel
theorem d_Mac_execute_47 : decode m_Mac_execute.2.1 47 = .ok (.invokevirtual 68, 3) := by decide +kernel
theorem d_Mac_execute_50 : decode m_Mac_execute.2.1 50 = .ok (.goto 10, 3) := by decide +kernel
theorem d_Mac_execute_53 : decode m_Mac_execute.2.1 53 = .ok (.aload_n 0, 1) := by decide +kernel
theorem d_Mac_execute_54 : decode m_Mac_execute.2.1 54 = .ok (.iload 4, 2) := by decide +kernel
theorem d_Mac_execute_56 : decode m_Mac_execute.2.1 56 = .ok (.iload_n 2, 1) := by decide +kernel
theorem d_Mac_execute_57 : decode m_Mac_execute.2.1 57 = .ok (.invokevirtual 71, 3) := by decide +kernel
theorem d_Mac_execute_60 : decode m_Mac_execute.2.1 60 = .ok (.istore_n 2, 1) := by decide +kernel
theorem d_Mac_execute_61 : decode m_Mac_execute.2.1 61 = .ok (.iinc 3 1, 3) := by decide +kernel
theorem d_Mac_execute_64 : decode m_Mac_execute.2.1 64 = .ok (.goto (-56), 3) := by decide +kernel
theorem d_Mac_execute_67 : decode m_Mac_execute.2.1 67 = .ok (.iload_n 2, 1) := by decide +kernel
theorem d_Mac_execute_68 : decode m_Mac_execute.2.1 68 = .ok (.aload_n 0, 1) := by decide +kernel
theorem d_Mac_execute_69 : decode m_Mac_execute.2.1 69 = .ok (.getfield 21, 3) := by decide +kernel
theorem d_Mac_execute_72 : decode m_Mac_execute.2.1 72 = .ok (.getfield 55, 3) := by decide +kernel
theorem d_Mac_execute_75 : decode m_Mac_execute.2.1 75 = .ok (.if_icmp .ge 7, 3) := by decide +kernel
theorem d_Mac_execute_78 : decode m_Mac_execute.2.1 78 = .ok (.iconst 1, 1) := by decide +kernel
theorem d_Mac_execute_79 : decode m_Mac_execute.2.1 79 = .ok (.goto 7, 3) := by decide +kernel
theorem d_Mac_execute_82 : decode m_Mac_execute.2.1 82 = .ok (.aload_n 0, 1) := by decide +kernel
theorem d_Mac_execute_83 : decode m_Mac_execute.2.1 83 = .ok (.getfield 47, 3) := by decide +kernel
theorem d_Mac_execute_86 : decode m_Mac_execute.2.1 86 = .ok (.ireturn, 1) := by decide +kernel
theorem d_Mac_reset_0 : decode m_Mac_reset.2.1 0 = .ok (.aload_n 0, 1) := by decide +kernel
theorem d_Mac_reset_1 : decode m_Mac_reset.2.1 1 = .ok (.getfield 37, 3) := by decide +kernel
theorem d_Mac_reset_4 : decode m_Mac_reset.2.1 4 = .ok (.invokevirtual 74, 3) := by decide +kernel
theorem d_Mac_reset_7 : decode m_Mac_reset.2.1 7 = .ok (.iconst 0, 1) := by decide +kernel
theorem d_Mac_reset_8 : decode m_Mac_reset.2.1 8 = .ok (.istore_n 1, 1) := by decide +kernel
theorem d_Mac_reset_9 : decode m_Mac_reset.2.1 9 = .ok (.iload_n 1, 1) := by decide +kernel
theorem d_Mac_reset_10 : decode m_Mac_reset.2.1 10 = .ok (.iconst 3, 1) := by decide +kernel
theorem d_Mac_reset_11 : decode m_Mac_reset.2.1 11 = .ok (.if_icmp .ge 18, 3) := by decide +kernel
theorem d_Mac_reset_14 : decode m_Mac_reset.2.1 14 = .ok (.aload_n 0, 1) := by decide +kernel
theorem d_Mac_reset_15 : decode m_Mac_reset.2.1 15 = .ok (.getfield 43, 3) := by decide +kernel
theorem d_Mac_reset_18 : decode m_Mac_reset.2.1 18 = .ok (.iload_n 1, 1) := by decide +kernel
theorem d_Mac_reset_19 : decode m_Mac_reset.2.1 19 = .ok (.aaload, 1) := by decide +kernel
theorem d_Mac_reset_20 : decode m_Mac_reset.2.1 20 = .ok (.invokevirtual 77, 3) := by decide +kernel
theorem d_Mac_reset_23 : decode m_Mac_reset.2.1 23 = .ok (.iinc 1 1, 3) := by decide +kernel
theorem d_Mac_reset_26 : decode m_Mac_reset.2.1 26 = .ok (.goto (-17), 3) := by decide +kernel
theorem d_Mac_reset_29 : decode m_Mac_reset.2.1 29 = .ok (.aload_n 0, 1) := by decide +kernel
theorem d_Mac_reset_30 : decode m_Mac_reset.2.1 30 = .ok (.getfield 28, 3) := by decide +kernel
theorem d_Mac_reset_33 : decode m_Mac_reset.2.1 33 = .ok (.iconst 0, 1) := by decide +kernel
theorem d_Mac_reset_34 : decode m_Mac_reset.2.1 34 = .ok (.putfield 80, 3) := by decide +kernel
theorem d_Mac_reset_37 : decode m_Mac_reset.2.1 37 = .ok (.aload_n 0, 1) := by decide +kernel
theorem d_Mac_reset_38 : decode m_Mac_reset.2.1 38 = .ok (.iconst 0, 1) := by decide +kernel
theorem d_Mac_reset_39 : decode m_Mac_reset.2.1 39 = .ok (.putfield 47, 3) := by decide +kernel
theorem d_Mac_reset_42 : decode m_Mac_reset.2.1 42 = .ok (.return_, 1) := by decide +kernel
theorem d_Mac_useCursor_0 : decode m_Mac_useCursor.2.1 0 = .ok (.aload_n 0, 1) := by decide +kernel
theorem d_Mac_useCursor_1 : decode m_Mac_useCursor.2.1 1 = .ok (.getfield 43, 3) := by decide +kernel
theorem d_Mac_useCursor_4 : decode m_Mac_useCursor.2.1 4 = .ok (.aload_n 0, 1) := by decide +kernel
theorem d_Mac_useCursor_5 : decode m_Mac_useCursor.2.1 5 = .ok (.getfield 21, 3) := by decide +kernel
theorem d_Mac_useCursor_8 : decode m_Mac_useCursor.2.1 8 = .ok (.iload_n 2, 1) := by decide +kernel
theorem d_Mac_useCursor_9 : decode m_Mac_useCursor.2.1 9 = .ok (.iconst 1, 1) := by decide +kernel
theorem d_Mac_useCursor_10 : decode m_Mac_useCursor.2.1 10 = .ok (.invokevirtual 58, 3) := by decide +kernel
theorem d_Mac_useCursor_13 : decode m_Mac_useCursor.2.1 13 = .ok (.aaload, 1) := by decide +kernel
theorem d_Mac_useCursor_14 : decode m_Mac_useCursor.2.1 14 = .ok (.astore_n 3, 1) := by decide +kernel
theorem d_Mac_useCursor_15 : decode m_Mac_useCursor.2.1 15 = .ok (.aload_n 3, 1) := by decide +kernel
theorem d_Mac_useCursor_16 : decode m_Mac_useCursor.2.1 16 = .ok (.invokevirtual 81, 3) := by decide +kernel
theorem d_Mac_useCursor_19 : decode m_Mac_useCursor.2.1 19 = .ok (.ifCond .eq 9, 3) := by decide +kernel
theorem d_Mac_useCursor_22 : decode m_Mac_useCursor.2.1 22 = .ok (.aload_n 0, 1) := by decide +kernel
theorem d_Mac_useCursor_23 : decode m_Mac_useCursor.2.1 23 = .ok (.iconst 3, 1) := by decide +kernel
theorem d_Mac_useCursor_24 : decode m_Mac_useCursor.2.1 24 = .ok (.invokevirtual 85, 3) := by decide +kernel
theorem d_Mac_useCursor_27 : decode m_Mac_useCursor.2.1 27 = .ok (.ireturn, 1) := by decide +kernel
theorem d_Mac_useCursor_28 : decode m_Mac_useCursor.2.1 28 = .ok (.aload_n 0, 1) := by decide +kernel
theorem d_Mac_useCursor_29 : decode m_Mac_useCursor.2.1 29 = .ok (.getfield 21, 3) := by decide +kernel
theorem d_Mac_useCursor_32 : decode m_Mac_useCursor.2.1 32 = .ok (.iload_n 2, 1) := by decide +kernel
theorem d_Mac_useCursor_33 : decode m_Mac_useCursor.2.1 33 = .ok (.iconst 2, 1) := by decide +kernel
theorem d_Mac_useCursor_34 : decode m_Mac_useCursor.2.1 34 = .ok (.invokevirtual 58, 3) := by decide +kernel
theorem d_Mac_useCursor_37 : decode m_Mac_useCursor.2.1 37 = .ok (.istore 4, 2) := by decide +kernel
theorem d_Mac_useCursor_39 : decode m_Mac_useCursor.2.1 39 = .ok (.aload_n 0, 1) := by decide +kernel
theorem d_Mac_useCursor_40 : decode m_Mac_useCursor.2.1 40 = .ok (.getfield 21, 3) := by decide +kernel
theorem d_Mac_useCursor_43 : decode m_Mac_useCursor.2.1 43 = .ok (.iload_n 2, 1) := by decide +kernel
theorem d_Mac_useCursor_44 : decode m_Mac_useCursor.2.1 44 = .ok (.iconst 3, 1) := by decide +kernel
theorem d_Mac_useCursor_45 : decode m_Mac_useCursor.2.1 45 = .ok (.invokevirtual 58, 3) := by decide +kernel
theorem d_Mac_useCursor_48 : decode m_Mac_useCursor.2.1 48 = .ok (.istore 5, 2) := by decide +kernel
theorem d_Mac_useCursor_50 : decode m_Mac_useCursor.2.1 50 = .ok (.iload_n 2, 1) := by decide +kernel
theorem d_Mac_useCursor_51 : decode m_Mac_useCursor.2.1 51 = .ok (.iconst 1, 1) := by decide +kernel
theorem d_Mac_useCursor_52 : decode m_Mac_useCursor.2.1 52 = .ok (.iadd, 1) := by decide +kernel
theorem d_Mac_useCursor_53 : decode m_Mac_useCursor.2.1 53 = .ok (.istore 6, 2) := by decide +kernel
theorem d_Mac_useCursor_55 : decode m_Mac_useCursor.2.1 55 = .ok (.iload_n 1, 1) := by decide +kernel
theorem d_Mac_useCursor_56 : decode m_Mac_useCursor.2.1 56 = .ok (.tableswitch 183 2 20 #[92, 109, 125, 137, 183, 183, 147, 183, 183, 183, 183, 183, 183, 183, 183, 183, 183, 183, 165], 92) := by decide +kernel
theorem d_Mac_useCursor_148 : decode m_Mac_useCursor.2.1 148 = .ok (.aload_n 0, 1) := by decide +kernel
theorem d_Mac_useCursor_149 : decode m_Mac_useCursor.2.1 149 = .ok (.aload_n 3, 1) := by decide +kernel
theorem d_Mac_useCursor_150 : decode m_Mac_useCursor.2.1 150 = .ok (.iconst 0, 1) := by decide +kernel
theorem d_Mac_useCursor_151 : decode m_Mac_useCursor.2.1 151 = .ok (.invokevirtual 89, 3) := by decide +kernel
theorem d_Mac_useCursor_154 : decode m_Mac_useCursor.2.1 154 = .ok (.ifCond .eq 8, 3) := by decide +kernel
theorem d_Mac_useCursor_157 : decode m_Mac_useCursor.2.1 157 = .ok (.iload 6, 2) := by decide +kernel
theorem d_Mac_useCursor_159 : decode m_Mac_useCursor.2.1 159 = .ok (.goto 5, 3) := by decide +kernel
theorem d_Mac_useCursor_162 : decode m_Mac_useCursor.2.1 162 = .ok (.iload 4, 2) := by decide +kernel
theorem d_Mac_useCursor_164 : decode m_Mac_useCursor.2.1 164 = .ok (.ireturn, 1) := by decide +kernel
theorem d_Mac_useCursor_165 : decode m_Mac_useCursor.2.1 165 = .ok (.aload_n 0, 1) := by decide +kernel
theorem d_Mac_useCursor_166 : decode m_Mac_useCursor.2.1 166 = .ok (.aload_n 3, 1) := by decide +kernel
theorem d_Mac_useCursor_167 : decode m_Mac_useCursor.2.1 167 = .ok (.invokevirtual 93, 3) := by decide +kernel
theorem d_Mac_useCursor_170 : decode m_Mac_useCursor.2.1 170 = .ok (.ifCond .eq 8, 3) := by decide +kernel
theorem d_Mac_useCursor_173 : decode m_Mac_useCursor.2.1 173 = .ok (.iload 4, 2) := by decide +kernel
theorem d_Mac_useCursor_175 : decode m_Mac_useCursor.2.1 175 = .ok (.goto 5, 3) := by decide +kernel
theorem d_Mac_useCursor_178 : decode m_Mac_useCursor.2.1 178 = .ok (.iload 6, 2) := by decide +kernel
theorem d_Mac_useCursor_180 : decode m_Mac_useCursor.2.1 180 = .ok (.ireturn, 1) := by decide +kernel
theorem d_Mac_useCursor_181 : decode m_Mac_useCursor.2.1 181 = .ok (.aload_n 0, 1) := by decide +kernel
theorem d_Mac_useCursor_182 : decode m_Mac_useCursor.2.1 182 = .ok (.aload_n 3, 1) := by decide +kernel
theorem d_Mac_useCursor_183 : decode m_Mac_useCursor.2.1 183 = .ok (.iload 4, 2) := by decide +kernel
theorem d_Mac_useCursor_185 : decode m_Mac_useCursor.2.1 185 = .ok (.iload 5, 2) := by decide +kernel
theorem d_Mac_useCursor_187 : decode m_Mac_useCursor.2.1 187 = .ok (.invokevirtual 97, 3) := by decide +kernel
theorem d_Mac_useCursor_190 : decode m_Mac_useCursor.2.1 190 = .ok (.iload 6, 2) := by decide +kernel
theorem d_Mac_useCursor_192 : decode m_Mac_useCursor.2.1 192 = .ok (.ireturn, 1) := by decide +kernel
theorem d_Mac_useCursor_193 : decode m_Mac_useCursor.2.1 193 = .ok (.aload_n 0, 1) := by decide +kernel
theorem d_Mac_useCursor_194 : decode m_Mac_useCursor.2.1 194 = .ok (.aload_n 3, 1) := by decide +kernel
theorem d_Mac_useCursor_195 : decode m_Mac_useCursor.2.1 195 = .ok (.iload 4, 2) := by decide +kernel
theorem d_Mac_useCursor_197 : decode m_Mac_useCursor.2.1 197 = .ok (.invokevirtual 101, 3) := by decide +kernel
theorem d_Mac_useCursor_200 : decode m_Mac_useCursor.2.1 200 = .ok (.iload 6, 2) := by decide +kernel
theorem d_Mac_useCursor_202 : decode m_Mac_useCursor.2.1 202 = .ok (.ireturn, 1) := by decide +kernel
theorem d_Mac_useCursor_203 : decode m_Mac_useCursor.2.1 203 = .ok (.aload_n 0, 1) := by decide +kernel
theorem d_Mac_useCursor_204 : decode m_Mac_useCursor.2.1 204 = .ok (.aload_n 3, 1) := by decide +kernel
theorem d_Mac_useCursor_205 : decode m_Mac_useCursor.2.1 205 = .ok (.iload 5, 2) := by decide +kernel
theorem d_Mac_useCursor_207 : decode m_Mac_useCursor.2.1 207 = .ok (.invokevirtual 105, 3) := by decide +kernel
theorem d_Mac_useCursor_210 : decode m_Mac_useCursor.2.1 210 = .ok (.ifCond .eq 8, 3) := by decide +kernel
theorem d_Mac_useCursor_213 : decode m_Mac_useCursor.2.1 213 = .ok (.iload 6, 2) := by decide +kernel
theorem d_Mac_useCursor_215 : decode m_Mac_useCursor.2.1 215 = .ok (.goto 5, 3) := by decide +kernel
theorem d_Mac_useCursor_218 : decode m_Mac_useCursor.2.1 218 = .ok (.iload 4, 2) := by decide +kernel
theorem d_Mac_useCursor_220 : decode m_Mac_useCursor.2.1 220 = .ok (.ireturn, 1) := by decide +kernel
theorem d_Mac_useCursor_221 : decode m_Mac_useCursor.2.1 221 = .ok (.aload_n 0, 1) := by decide +kernel
theorem d_Mac_useCursor_222 : decode m_Mac_useCursor.2.1 222 = .ok (.aload_n 3, 1) := by decide +kernel
theorem d_Mac_useCursor_223 : decode m_Mac_useCursor.2.1 223 = .ok (.iload 5, 2) := by decide +kernel
theorem d_Mac_useCursor_225 : decode m_Mac_useCursor.2.1 225 = .ok (.invokevirtual 108, 3) := by decide +kernel
theorem d_Mac_useCursor_228 : decode m_Mac_useCursor.2.1 228 = .ok (.ifCond .eq 8, 3) := by decide +kernel
theorem d_Mac_useCursor_231 : decode m_Mac_useCursor.2.1 231 = .ok (.iload 6, 2) := by decide +kernel
theorem d_Mac_useCursor_233 : decode m_Mac_useCursor.2.1 233 = .ok (.goto 5, 3) := by decide +kernel
theorem d_Mac_useCursor_236 : decode m_Mac_useCursor.2.1 236 = .ok (.iload 4, 2) := by decide +kernel
theorem d_Mac_useCursor_238 : decode m_Mac_useCursor.2.1 238 = .ok (.ireturn, 1) := by decide +kernel
theorem d_Mac_useCursor_239 : decode m_Mac_useCursor.2.1 239 = .ok (.aload_n 0, 1) := by decide +kernel
theorem d_Mac_useCursor_240 : decode m_Mac_useCursor.2.1 240 = .ok (.aload_n 3, 1) := by decide +kernel
theorem d_Mac_useCursor_241 : decode m_Mac_useCursor.2.1 241 = .ok (.invokevirtual 111, 3) := by decide +kernel
theorem d_Mac_useCursor_244 : decode m_Mac_useCursor.2.1 244 = .ok (.iload 6, 2) := by decide +kernel
theorem d_Mac_useCursor_246 : decode m_Mac_useCursor.2.1 246 = .ok (.ireturn, 1) := by decide +kernel
theorem d_Mac_end_0 : decode m_Mac_end.2.1 0 = .ok (.aload_n 0, 1) := by decide +kernel
theorem d_Mac_end_1 : decode m_Mac_end.2.1 1 = .ok (.iload_n 1, 1) := by decide +kernel
theorem d_Mac_end_2 : decode m_Mac_end.2.1 2 = .ok (.putfield 47, 3) := by decide +kernel
theorem d_Mac_end_5 : decode m_Mac_end.2.1 5 = .ok (.aload_n 0, 1) := by decide +kernel
theorem d_Mac_end_6 : decode m_Mac_end.2.1 6 = .ok (.getfield 21, 3) := by decide +kernel
theorem d_Mac_end_9 : decode m_Mac_end.2.1 9 = .ok (.getfield 55, 3) := by decide +kernel
theorem d_Mac_end_12 : decode m_Mac_end.2.1 12 = .ok (.ireturn, 1) := by decide +kernel
theorem d_Mac_moveTo_0 : decode m_Mac_moveTo.2.1 0 = .ok (.aload_n 1, 1) := by decide +kernel
theorem d_Mac_moveTo_1 : decode m_Mac_moveTo.2.1 1 = .ok (.aload_n 0, 1) := by decide +kernel
theorem d_Mac_moveTo_2 : decode m_Mac_moveTo.2.1 2 = .ok (.getfield 12, 3) := by decide +kernel
theorem d_Mac_moveTo_5 : decode m_Mac_moveTo.2.1 5 = .ok (.aload_n 1, 1) := by decide +kernel
theorem d_Mac_moveTo_6 : decode m_Mac_moveTo.2.1 6 = .ok (.getfield 140, 3) := by decide +kernel
theorem d_Mac_moveTo_9 : decode m_Mac_moveTo.2.1 9 = .ok (.iload_n 2, 1) := by decide +kernel
theorem d_Mac_moveTo_10 : decode m_Mac_moveTo.2.1 10 = .ok (.invokevirtual 143, 3) := by decide +kernel
theorem d_Mac_moveTo_13 : decode m_Mac_moveTo.2.1 13 = .ok (.putfield 147, 3) := by decide +kernel
theorem d_Mac_moveTo_16 : decode m_Mac_moveTo.2.1 16 = .ok (.aload_n 1, 1) := by decide +kernel
theorem d_Mac_moveTo_17 : decode m_Mac_moveTo.2.1 17 = .ok (.getfield 147, 3) := by decide +kernel
theorem d_Mac_moveTo_20 : decode m_Mac_moveTo.2.1 20 = .ok (.ifCond .eq 19, 3) := by decide +kernel
theorem d_Mac_moveTo_23 : decode m_Mac_moveTo.2.1 23 = .ok (.aload_n 1, 1) := by decide +kernel
theorem d_Mac_moveTo_24 : decode m_Mac_moveTo.2.1 24 = .ok (.aload_n 0, 1) := by decide +kernel
theorem d_Mac_moveTo_25 : decode m_Mac_moveTo.2.1 25 = .ok (.getfield 12, 3) := by decide +kernel
theorem d_Mac_moveTo_28 : decode m_Mac_moveTo.2.1 28 = .ok (.aload_n 1, 1) := by decide +kernel
theorem d_Mac_moveTo_29 : decode m_Mac_moveTo.2.1 29 = .ok (.getfield 140, 3) := by decide +kernel
theorem d_Mac_moveTo_32 : decode m_Mac_moveTo.2.1 32 = .ok (.iload_n 2, 1) := by decide +kernel
theorem d_Mac_moveTo_33 : decode m_Mac_moveTo.2.1 33 = .ok (.invokevirtual 151, 3) := by decide +kernel
theorem d_Mac_moveTo_36 : decode m_Mac_moveTo.2.1 36 = .ok (.putfield 155, 3) := by decide +kernel
theorem d_Mac_moveTo_39 : decode m_Mac_moveTo.2.1 39 = .ok (.aload_n 1, 1) := by decide +kernel
theorem d_Mac_moveTo_40 : decode m_Mac_moveTo.2.1 40 = .ok (.getfield 147, 3) := by decide +kernel
theorem d_Mac_moveTo_43 : decode m_Mac_moveTo.2.1 43 = .ok (.ireturn, 1) := by decide +kernel
theorem d_Mac_advance_0 : decode m_Mac_advance.2.1 0 = .ok (.aload_n 1, 1) := by decide +kernel
theorem d_Mac_advance_1 : decode m_Mac_advance.2.1 1 = .ok (.getfield 147, 3) := by decide +kernel
theorem d_Mac_advance_4 : decode m_Mac_advance.2.1 4 = .ok (.ifCond .ne 5, 3) := by decide +kernel
theorem d_Mac_advance_7 : decode m_Mac_advance.2.1 7 = .ok (.iconst 0, 1) := by decide +kernel
theorem d_Mac_advance_8 : decode m_Mac_advance.2.1 8 = .ok (.ireturn, 1) := by decide +kernel
theorem d_Mac_advance_9 : decode m_Mac_advance.2.1 9 = .ok (.aload_n 0, 1) := by decide +kernel
theorem d_Mac_advance_10 : decode m_Mac_advance.2.1 10 = .ok (.getfield 12, 3) := by decide +kernel
theorem d_Mac_advance_13 : decode m_Mac_advance.2.1 13 = .ok (.aload_n 1, 1) := by decide +kernel
theorem d_Mac_advance_14 : decode m_Mac_advance.2.1 14 = .ok (.getfield 140, 3) := by decide +kernel
theorem d_Mac_advance_17 : decode m_Mac_advance.2.1 17 = .ok (.aload_n 1, 1) := by decide +kernel
theorem d_Mac_advance_18 : decode m_Mac_advance.2.1 18 = .ok (.getfield 155, 3) := by decide +kernel
theorem d_Mac_advance_21 : decode m_Mac_advance.2.1 21 = .ok (.iconst 1, 1) := by decide +kernel
theorem d_Mac_advance_22 : decode m_Mac_advance.2.1 22 = .ok (.invokevirtual 159, 3) := by decide +kernel
theorem d_Mac_advance_25 : decode m_Mac_advance.2.1 25 = .ok (.istore_n 2, 1) := by decide +kernel
theorem d_Mac_advance_26 : decode m_Mac_advance.2.1 26 = .ok (.aload_n 0, 1) := by decide +kernel
theorem d_Mac_advance_27 : decode m_Mac_advance.2.1 27 = .ok (.getfield 12, 3) := by decide +kernel
theorem d_Mac_advance_30 : decode m_Mac_advance.2.1 30 = .ok (.aload_n 1, 1) := by decide +kernel
theorem d_Mac_advance_31 : decode m_Mac_advance.2.1 31 = .ok (.getfield 140, 3) := by decide +kernel
theorem d_Mac_advance_34 : decode m_Mac_advance.2.1 34 = .ok (.iload_n 2, 1) := by decide +kernel
theorem d_Mac_advance_35 : decode m_Mac_advance.2.1 35 = .ok (.invokevirtual 143, 3) := by decide +kernel
theorem d_Mac_advance_38 : decode m_Mac_advance.2.1 38 = .ok (.ifCond .eq 16, 3) := by decide +kernel
theorem d_Mac_advance_41 : decode m_Mac_advance.2.1 41 = .ok (.aload_n 0, 1) := by decide +kernel
theorem d_Mac_advance_42 : decode m_Mac_advance.2.1 42 = .ok (.aload_n 1, 1) := by decide +kernel
theorem d_Mac_advance_43 : decode m_Mac_advance.2.1 43 = .ok (.iload_n 2, 1) := by decide +kernel
theorem d_Mac_advance_44 : decode m_Mac_advance.2.1 44 = .ok (.invokevirtual 89, 3) := by decide +kernel
theorem d_Mac_advance_47 : decode m_Mac_advance.2.1 47 = .ok (.ifCond .eq 7, 3) := by decide +kernel
theorem d_Mac_advance_50 : decode m_Mac_advance.2.1 50 = .ok (.iconst 1, 1) := by decide +kernel
theorem d_Mac_advance_51 : decode m_Mac_advance.2.1 51 = .ok (.goto 4, 3) := by decide +kernel
theorem d_Mac_advance_54 : decode m_Mac_advance.2.1 54 = .ok (.iconst 0, 1) := by decide +kernel
theorem d_Mac_advance_55 : decode m_Mac_advance.2.1 55 = .ok (.ireturn, 1) := by decide +kernel
theorem d_Mac_readColumn_0 : decode m_Mac_readColumn.2.1 0 = .ok (.aload_n 0, 1) := by decide +kernel
theorem d_Mac_readColumn_1 : decode m_Mac_readColumn.2.1 1 = .ok (.aload_n 1, 1) := by decide +kernel
theorem d_Mac_readColumn_2 : decode m_Mac_readColumn.2.1 2 = .ok (.invokevirtual 171, 3) := by decide +kernel
theorem d_Mac_readColumn_5 : decode m_Mac_readColumn.2.1 5 = .ok (.istore 4, 2) := by decide +kernel
theorem d_Mac_readColumn_7 : decode m_Mac_readColumn.2.1 7 = .ok (.iload 4, 2) := by decide +kernel
theorem d_Mac_readColumn_9 : decode m_Mac_readColumn.2.1 9 = .ok (.iconst (-1), 1) := by decide +kernel
theorem d_Mac_readColumn_10 : decode m_Mac_readColumn.2.1 10 = .ok (.if_icmp .eq 18, 3) := by decide +kernel
theorem d_Mac_readColumn_13 : decode m_Mac_readColumn.2.1 13 = .ok (.aload_n 0, 1) := by decide +kernel
theorem d_Mac_readColumn_14 : decode m_Mac_readColumn.2.1 14 = .ok (.getfield 12, 3) := by decide +kernel
theorem d_Mac_readColumn_17 : decode m_Mac_readColumn.2.1 17 = .ok (.aload_n 1, 1) := by decide +kernel
theorem d_Mac_readColumn_18 : decode m_Mac_readColumn.2.1 18 = .ok (.getfield 140, 3) := by decide +kernel
theorem d_Mac_readColumn_21 : decode m_Mac_readColumn.2.1 21 = .ok (.iload_n 2, 1) := by decide +kernel
theorem d_Mac_readColumn_22 : decode m_Mac_readColumn.2.1 22 = .ok (.invokevirtual 175, 3) := by decide +kernel
theorem d_Mac_readColumn_25 : decode m_Mac_readColumn.2.1 25 = .ok (.ifCond .ne 14, 3) := by decide +kernel
theorem d_Mac_readColumn_28 : decode m_Mac_readColumn.2.1 28 = .ok (.aload_n 0, 1) := by decide +kernel
theorem d_Mac_readColumn_29 : decode m_Mac_readColumn.2.1 29 = .ok (.getfield 37, 3) := by decide +kernel
theorem d_Mac_readColumn_32 : decode m_Mac_readColumn.2.1 32 = .ok (.iload_n 3, 1) := by decide +kernel
theorem d_Mac_readColumn_33 : decode m_Mac_readColumn.2.1 33 = .ok (.invokevirtual 122, 3) := by decide +kernel
theorem d_Mac_readColumn_36 : decode m_Mac_readColumn.2.1 36 = .ok (.goto 24, 3) := by decide +kernel
theorem d_Mac_readColumn_39 : decode m_Mac_readColumn.2.1 39 = .ok (.aload_n 0, 1) := by decide +kernel
theorem d_Mac_readColumn_40 : decode m_Mac_readColumn.2.1 40 = .ok (.getfield 37, 3) := by decide +kernel
theorem d_Mac_readColumn_43 : decode m_Mac_readColumn.2.1 43 = .ok (.iload_n 3, 1) := by decide +kernel
theorem d_Mac_readColumn_44 : decode m_Mac_readColumn.2.1 44 = .ok (.aload_n 0, 1) := by decide +kernel
theorem d_Mac_readColumn_45 : decode m_Mac_readColumn.2.1 45 = .ok (.getfield 12, 3) := by decide +kernel
theorem d_Mac_readColumn_48 : decode m_Mac_readColumn.2.1 48 = .ok (.getfield 178, 3) := by decide +kernel
theorem d_Mac_readColumn_51 : decode m_Mac_readColumn.2.1 51 = .ok (.iload 4, 2) := by decide +kernel
theorem d_Mac_readColumn_53 : decode m_Mac_readColumn.2.1 53 = .ok (.iconst 4, 1) := by decide +kernel
theorem d_Mac_readColumn_54 : decode m_Mac_readColumn.2.1 54 = .ok (.imul, 1) := by decide +kernel
theorem d_Mac_readColumn_55 : decode m_Mac_readColumn.2.1 55 = .ok (.iload_n 2, 1) := by decide +kernel
theorem d_Mac_readColumn_56 : decode m_Mac_readColumn.2.1 56 = .ok (.iadd, 1) := by decide +kernel
theorem d_Mac_readColumn_57 : decode m_Mac_readColumn.2.1 57 = .ok (.invokevirtual 181, 3) := by decide +kernel
theorem d_Mac_readColumn_60 : decode m_Mac_readColumn.2.1 60 = .ok (.return_, 1) := by decide +kernel
theorem d_Mac_slotAt_0 : decode m_Mac_slotAt.2.1 0 = .ok (.aload_n 1, 1) := by decide +kernel
theorem d_Mac_slotAt_1 : decode m_Mac_slotAt.2.1 1 = .ok (.getfield 147, 3) := by decide +kernel
theorem d_Mac_slotAt_4 : decode m_Mac_slotAt.2.1 4 = .ok (.ifCond .eq 21, 3) := by decide +kernel
theorem d_Mac_slotAt_7 : decode m_Mac_slotAt.2.1 7 = .ok (.aload_n 0, 1) := by decide +kernel
theorem d_Mac_slotAt_8 : decode m_Mac_slotAt.2.1 8 = .ok (.getfield 12, 3) := by decide +kernel
theorem d_Mac_slotAt_11 : decode m_Mac_slotAt.2.1 11 = .ok (.aload_n 1, 1) := by decide +kernel
theorem d_Mac_slotAt_12 : decode m_Mac_slotAt.2.1 12 = .ok (.getfield 140, 3) := by decide +kernel
theorem d_Mac_slotAt_15 : decode m_Mac_slotAt.2.1 15 = .ok (.aload_n 1, 1) := by decide +kernel
theorem d_Mac_slotAt_16 : decode m_Mac_slotAt.2.1 16 = .ok (.getfield 155, 3) := by decide +kernel
theorem d_Mac_slotAt_19 : decode m_Mac_slotAt.2.1 19 = .ok (.invokevirtual 167, 3) := by decide +kernel
theorem d_Mac_slotAt_22 : decode m_Mac_slotAt.2.1 22 = .ok (.goto 4, 3) := by decide +kernel
theorem d_Mac_slotAt_25 : decode m_Mac_slotAt.2.1 25 = .ok (.iconst (-1), 1) := by decide +kernel
theorem d_Mac_slotAt_26 : decode m_Mac_slotAt.2.1 26 = .ok (.ireturn, 1) := by decide +kernel
theorem d_Mac_readKey_0 : decode m_Mac_readKey.2.1 0 = .ok (.aload_n 0, 1) := by decide +kernel
theorem d_Mac_readKey_1 : decode m_Mac_readKey.2.1 1 = .ok (.aload_n 1, 1) := by decide +kernel
theorem d_Mac_readKey_2 : decode m_Mac_readKey.2.1 2 = .ok (.invokevirtual 171, 3) := by decide +kernel
theorem d_Mac_readKey_5 : decode m_Mac_readKey.2.1 5 = .ok (.iconst (-1), 1) := by decide +kernel
theorem d_Mac_readKey_6 : decode m_Mac_readKey.2.1 6 = .ok (.if_icmp .ne 14, 3) := by decide +kernel
theorem d_Mac_readKey_9 : decode m_Mac_readKey.2.1 9 = .ok (.aload_n 0, 1) := by decide +kernel
theorem d_Mac_readKey_10 : decode m_Mac_readKey.2.1 10 = .ok (.getfield 37, 3) := by decide +kernel
theorem d_Mac_readKey_13 : decode m_Mac_readKey.2.1 13 = .ok (.iload_n 2, 1) := by decide +kernel
theorem d_Mac_readKey_14 : decode m_Mac_readKey.2.1 14 = .ok (.invokevirtual 122, 3) := by decide +kernel
theorem d_Mac_readKey_17 : decode m_Mac_readKey.2.1 17 = .ok (.goto 15, 3) := by decide +kernel
theorem d_Mac_readKey_20 : decode m_Mac_readKey.2.1 20 = .ok (.aload_n 0, 1) := by decide +kernel
theorem d_Mac_readKey_21 : decode m_Mac_readKey.2.1 21 = .ok (.getfield 37, 3) := by decide +kernel
theorem d_Mac_readKey_24 : decode m_Mac_readKey.2.1 24 = .ok (.iload_n 2, 1) := by decide +kernel
theorem d_Mac_readKey_25 : decode m_Mac_readKey.2.1 25 = .ok (.aload_n 1, 1) := by decide +kernel
theorem d_Mac_readKey_26 : decode m_Mac_readKey.2.1 26 = .ok (.getfield 155, 3) := by decide +kernel
theorem d_Mac_readKey_29 : decode m_Mac_readKey.2.1 29 = .ok (.invokevirtual 118, 3) := by decide +kernel
theorem d_Mac_readKey_32 : decode m_Mac_readKey.2.1 32 = .ok (.return_, 1) := by decide +kernel
theorem d_Mac_seek_0 : decode m_Mac_seek.2.1 0 = .ok (.aload_n 0, 1) := by decide +kernel
theorem d_Mac_seek_1 : decode m_Mac_seek.2.1 1 = .ok (.getfield 37, 3) := by decide +kernel
theorem d_Mac_seek_4 : decode m_Mac_seek.2.1 4 = .ok (.iload_n 2, 1) := by decide +kernel
theorem d_Mac_seek_5 : decode m_Mac_seek.2.1 5 = .ok (.invokevirtual 125, 3) := by decide +kernel
theorem d_Mac_seek_8 : decode m_Mac_seek.2.1 8 = .ok (.ifCond .ne 10, 3) := by decide +kernel
theorem d_Mac_seek_11 : decode m_Mac_seek.2.1 11 = .ok (.aload_n 1, 1) := by decide +kernel
theorem d_Mac_seek_12 : decode m_Mac_seek.2.1 12 = .ok (.iconst 0, 1) := by decide +kernel
theorem d_Mac_seek_13 : decode m_Mac_seek.2.1 13 = .ok (.putfield 147, 3) := by decide +kernel
theorem d_Mac_seek_16 : decode m_Mac_seek.2.1 16 = .ok (.iconst 0, 1) := by decide +kernel
theorem d_Mac_seek_17 : decode m_Mac_seek.2.1 17 = .ok (.ireturn, 1) := by decide +kernel
theorem d_Mac_seek_18 : decode m_Mac_seek.2.1 18 = .ok (.aload_n 0, 1) := by decide +kernel
theorem d_Mac_seek_19 : decode m_Mac_seek.2.1 19 = .ok (.aload_n 1, 1) := by decide +kernel
theorem d_Mac_seek_20 : decode m_Mac_seek.2.1 20 = .ok (.aload_n 0, 1) := by decide +kernel
theorem d_Mac_seek_21 : decode m_Mac_seek.2.1 21 = .ok (.getfield 12, 3) := by decide +kernel
theorem d_Mac_seek_24 : decode m_Mac_seek.2.1 24 = .ok (.aload_n 1, 1) := by decide +kernel
theorem d_Mac_seek_25 : decode m_Mac_seek.2.1 25 = .ok (.getfield 140, 3) := by decide +kernel
theorem d_Mac_seek_28 : decode m_Mac_seek.2.1 28 = .ok (.aload_n 0, 1) := by decide +kernel
theorem d_Mac_seek_29 : decode m_Mac_seek.2.1 29 = .ok (.getfield 37, 3) := by decide +kernel
theorem d_Mac_seek_32 : decode m_Mac_seek.2.1 32 = .ok (.iload_n 2, 1) := by decide +kernel
theorem d_Mac_seek_33 : decode m_Mac_seek.2.1 33 = .ok (.invokevirtual 163, 3) := by decide +kernel
theorem d_Mac_seek_36 : decode m_Mac_seek.2.1 36 = .ok (.iconst 0, 1) := by decide +kernel
theorem d_Mac_seek_37 : decode m_Mac_seek.2.1 37 = .ok (.invokevirtual 159, 3) := by decide +kernel
theorem d_Mac_seek_40 : decode m_Mac_seek.2.1 40 = .ok (.invokevirtual 89, 3) := by decide +kernel
theorem d_Mac_seek_43 : decode m_Mac_seek.2.1 43 = .ok (.ireturn, 1) := by decide +kernel
theorem d_Mac_bringRow_0 : decode m_Mac_bringRow.2.1 0 = .ok (.aload_n 0, 1) := by decide +kernel
theorem d_Mac_bringRow_1 : decode m_Mac_bringRow.2.1 1 = .ok (.getfield 37, 3) := by decide +kernel
theorem d_Mac_bringRow_4 : decode m_Mac_bringRow.2.1 4 = .ok (.iload_n 2, 1) := by decide +kernel
theorem d_Mac_bringRow_5 : decode m_Mac_bringRow.2.1 5 = .ok (.invokevirtual 125, 3) := by decide +kernel
theorem d_Mac_bringRow_8 : decode m_Mac_bringRow.2.1 8 = .ok (.ifCond .eq 36, 3) := by decide +kernel
theorem d_Mac_bringRow_11 : decode m_Mac_bringRow.2.1 11 = .ok (.aload_n 0, 1) := by decide +kernel
theorem d_Mac_bringRow_12 : decode m_Mac_bringRow.2.1 12 = .ok (.getfield 12, 3) := by decide +kernel
theorem d_Mac_bringRow_15 : decode m_Mac_bringRow.2.1 15 = .ok (.aload_n 1, 1) := by decide +kernel
theorem d_Mac_bringRow_16 : decode m_Mac_bringRow.2.1 16 = .ok (.getfield 140, 3) := by decide +kernel
theorem d_Mac_bringRow_19 : decode m_Mac_bringRow.2.1 19 = .ok (.aload_n 0, 1) := by decide +kernel
theorem d_Mac_bringRow_20 : decode m_Mac_bringRow.2.1 20 = .ok (.getfield 37, 3) := by decide +kernel
theorem d_Mac_bringRow_23 : decode m_Mac_bringRow.2.1 23 = .ok (.iload_n 2, 1) := by decide +kernel
theorem d_Mac_bringRow_24 : decode m_Mac_bringRow.2.1 24 = .ok (.invokevirtual 163, 3) := by decide +kernel
theorem d_Mac_bringRow_27 : decode m_Mac_bringRow.2.1 27 = .ok (.aload_n 0, 1) := by decide +kernel
theorem d_Mac_bringRow_28 : decode m_Mac_bringRow.2.1 28 = .ok (.getfield 37, 3) := by decide +kernel
theorem d_Mac_bringRow_31 : decode m_Mac_bringRow.2.1 31 = .ok (.iload_n 2, 1) := by decide +kernel
theorem d_Mac_bringRow_32 : decode m_Mac_bringRow.2.1 32 = .ok (.iconst 1, 1) := by decide +kernel
theorem d_Mac_bringRow_33 : decode m_Mac_bringRow.2.1 33 = .ok (.iadd, 1) := by decide +kernel
theorem d_Mac_bringRow_34 : decode m_Mac_bringRow.2.1 34 = .ok (.invokevirtual 185, 3) := by decide +kernel
theorem d_Mac_bringRow_37 : decode m_Mac_bringRow.2.1 37 = .ok (.ifCond .eq 7, 3) := by decide +kernel
theorem d_Mac_bringRow_40 : decode m_Mac_bringRow.2.1 40 = .ok (.iconst 1, 1) := by decide +kernel
theorem d_Mac_bringRow_41 : decode m_Mac_bringRow.2.1 41 = .ok (.goto 4, 3) := by decide +kernel
theorem d_Mac_bringRow_44 : decode m_Mac_bringRow.2.1 44 = .ok (.iconst 0, 1) := by decide +kernel
theorem d_Mac_bringRow_45 : decode m_Mac_bringRow.2.1 45 = .ok (.ireturn, 1) := by decide +kernel
theorem d_Mac_dropRow_0 : decode m_Mac_dropRow.2.1 0 = .ok (.aload_n 1, 1) := by decide +kernel
theorem d_Mac_dropRow_1 : decode m_Mac_dropRow.2.1 1 = .ok (.getfield 147, 3) := by decide +kernel
theorem d_Mac_dropRow_4 : decode m_Mac_dropRow.2.1 4 = .ok (.ifCond .eq 19, 3) := by decide +kernel
theorem d_Mac_dropRow_7 : decode m_Mac_dropRow.2.1 7 = .ok (.aload_n 0, 1) := by decide +kernel
theorem d_Mac_dropRow_8 : decode m_Mac_dropRow.2.1 8 = .ok (.getfield 12, 3) := by decide +kernel
theorem d_Mac_dropRow_11 : decode m_Mac_dropRow.2.1 11 = .ok (.aload_n 1, 1) := by decide +kernel
theorem d_Mac_dropRow_12 : decode m_Mac_dropRow.2.1 12 = .ok (.getfield 140, 3) := by decide +kernel
theorem d_Mac_dropRow_15 : decode m_Mac_dropRow.2.1 15 = .ok (.aload_n 1, 1) := by decide +kernel
theorem d_Mac_dropRow_16 : decode m_Mac_dropRow.2.1 16 = .ok (.getfield 155, 3) := by decide +kernel
theorem d_Mac_dropRow_19 : decode m_Mac_dropRow.2.1 19 = .ok (.invokevirtual 189, 3) := by decide +kernel
theorem d_Mac_dropRow_22 : decode m_Mac_dropRow.2.1 22 = .ok (.pop, 1) := by decide +kernel
theorem d_Mac_dropRow_23 : decode m_Mac_dropRow.2.1 23 = .ok (.return_, 1) := by decide +kernel
theorem d_Mac_compute_0 : decode m_Mac_compute.2.1 0 = .ok (.aload_n 0, 1) := by decide +kernel
theorem d_Mac_compute_1 : decode m_Mac_compute.2.1 1 = .ok (.getfield 21, 3) := by decide +kernel
theorem d_Mac_compute_4 : decode m_Mac_compute.2.1 4 = .ok (.iload_n 2, 1) := by decide +kernel
theorem d_Mac_compute_5 : decode m_Mac_compute.2.1 5 = .ok (.iconst 1, 1) := by decide +kernel
theorem d_Mac_compute_6 : decode m_Mac_compute.2.1 6 = .ok (.invokevirtual 58, 3) := by decide +kernel
theorem d_Mac_compute_9 : decode m_Mac_compute.2.1 9 = .ok (.istore_n 3, 1) := by decide +kernel
theorem d_Mac_compute_10 : decode m_Mac_compute.2.1 10 = .ok (.aload_n 0, 1) := by decide +kernel
theorem d_Mac_compute_11 : decode m_Mac_compute.2.1 11 = .ok (.getfield 21, 3) := by decide +kernel
theorem d_Mac_compute_14 : decode m_Mac_compute.2.1 14 = .ok (.iload_n 2, 1) := by decide +kernel
theorem d_Mac_compute_15 : decode m_Mac_compute.2.1 15 = .ok (.iconst 2, 1) := by decide +kernel
theorem d_Mac_compute_16 : decode m_Mac_compute.2.1 16 = .ok (.invokevirtual 58, 3) := by decide +kernel
theorem d_Mac_compute_19 : decode m_Mac_compute.2.1 19 = .ok (.istore 4, 2) := by decide +kernel
theorem d_Mac_compute_21 : decode m_Mac_compute.2.1 21 = .ok (.aload_n 0, 1) := by decide +kernel
theorem d_Mac_compute_22 : decode m_Mac_compute.2.1 22 = .ok (.getfield 21, 3) := by decide +kernel
theorem d_Mac_compute_25 : decode m_Mac_compute.2.1 25 = .ok (.iload_n 2, 1) := by decide +kernel
theorem d_Mac_compute_26 : decode m_Mac_compute.2.1 26 = .ok (.iconst 3, 1) := by decide +kernel
theorem d_Mac_compute_27 : decode m_Mac_compute.2.1 27 = .ok (.invokevirtual 58, 3) := by decide +kernel
theorem d_Mac_compute_30 : decode m_Mac_compute.2.1 30 = .ok (.istore 5, 2) := by decide +kernel
theorem d_Mac_compute_32 : decode m_Mac_compute.2.1 32 = .ok (.iload_n 2, 1) := by decide +kernel
theorem d_Mac_compute_33 : decode m_Mac_compute.2.1 33 = .ok (.iconst 1, 1) := by decide +kernel
theorem d_Mac_compute_34 : decode m_Mac_compute.2.1 34 = .ok (.iadd, 1) := by decide +kernel
theorem d_Mac_compute_35 : decode m_Mac_compute.2.1 35 = .ok (.istore 6, 2) := by decide +kernel
theorem d_Mac_compute_37 : decode m_Mac_compute.2.1 37 = .ok (.iload_n 1, 1) := by decide +kernel
theorem d_Mac_compute_38 : decode m_Mac_compute.2.1 38 = .ok (.tableswitch 219 0 19 #[94, 100, 219, 219, 219, 219, 114, 128, 219, 219, 219, 219, 219, 219, 219, 139, 158, 177, 189, 217], 94) := by decide +kernel
theorem d_Mac_compute_132 : decode m_Mac_compute.2.1 132 = .ok (.aload_n 0, 1) := by decide +kernel
theorem d_Mac_compute_133 : decode m_Mac_compute.2.1 133 = .ok (.iconst 0, 1) := by decide +kernel
theorem d_Mac_compute_134 : decode m_Mac_compute.2.1 134 = .ok (.invokevirtual 85, 3) := by decide +kernel
theorem d_Mac_compute_137 : decode m_Mac_compute.2.1 137 = .ok (.ireturn, 1) := by decide +kernel
theorem d_Mac_compute_138 : decode m_Mac_compute.2.1 138 = .ok (.aload_n 0, 1) := by decide +kernel
theorem d_Mac_compute_139 : decode m_Mac_compute.2.1 139 = .ok (.getfield 43, 3) := by decide +kernel
theorem d_Mac_compute_142 : decode m_Mac_compute.2.1 142 = .ok (.iload_n 3, 1) := by decide +kernel
theorem d_Mac_compute_143 : decode m_Mac_compute.2.1 143 = .ok (.aaload, 1) := by decide +kernel
theorem d_Mac_compute_144 : decode m_Mac_compute.2.1 144 = .ok (.iload 4, 2) := by decide +kernel
theorem d_Mac_compute_146 : decode m_Mac_compute.2.1 146 = .ok (.invokevirtual 115, 3) := by decide +kernel
theorem d_Mac_compute_149 : decode m_Mac_compute.2.1 149 = .ok (.iload 6, 2) := by decide +kernel
theorem d_Mac_compute_151 : decode m_Mac_compute.2.1 151 = .ok (.ireturn, 1) := by decide +kernel
theorem d_Mac_compute_152 : decode m_Mac_compute.2.1 152 = .ok (.aload_n 0, 1) := by decide +kernel
theorem d_Mac_compute_153 : decode m_Mac_compute.2.1 153 = .ok (.getfield 37, 3) := by decide +kernel
theorem d_Mac_compute_156 : decode m_Mac_compute.2.1 156 = .ok (.iload 4, 2) := by decide +kernel
theorem d_Mac_compute_158 : decode m_Mac_compute.2.1 158 = .ok (.iload_n 3, 1) := by decide +kernel
theorem d_Mac_compute_159 : decode m_Mac_compute.2.1 159 = .ok (.i2l, 1) := by decide +kernel
theorem d_Mac_compute_160 : decode m_Mac_compute.2.1 160 = .ok (.invokevirtual 118, 3) := by decide +kernel
theorem d_Mac_compute_163 : decode m_Mac_compute.2.1 163 = .ok (.iload 6, 2) := by decide +kernel
theorem d_Mac_compute_165 : decode m_Mac_compute.2.1 165 = .ok (.ireturn, 1) := by decide +kernel
theorem d_Mac_compute_166 : decode m_Mac_compute.2.1 166 = .ok (.aload_n 0, 1) := by decide +kernel
theorem d_Mac_compute_167 : decode m_Mac_compute.2.1 167 = .ok (.getfield 37, 3) := by decide +kernel
theorem d_Mac_compute_170 : decode m_Mac_compute.2.1 170 = .ok (.iload_n 3, 1) := by decide +kernel
theorem d_Mac_compute_171 : decode m_Mac_compute.2.1 171 = .ok (.invokevirtual 122, 3) := by decide +kernel
theorem d_Mac_compute_174 : decode m_Mac_compute.2.1 174 = .ok (.iload 6, 2) := by decide +kernel
theorem d_Mac_compute_176 : decode m_Mac_compute.2.1 176 = .ok (.ireturn, 1) := by decide +kernel
theorem d_Mac_compute_177 : decode m_Mac_compute.2.1 177 = .ok (.aload_n 0, 1) := by decide +kernel
theorem d_Mac_compute_178 : decode m_Mac_compute.2.1 178 = .ok (.getfield 37, 3) := by decide +kernel
theorem d_Mac_compute_181 : decode m_Mac_compute.2.1 181 = .ok (.iload_n 3, 1) := by decide +kernel
theorem d_Mac_compute_182 : decode m_Mac_compute.2.1 182 = .ok (.invokevirtual 125, 3) := by decide +kernel
theorem d_Mac_compute_185 : decode m_Mac_compute.2.1 185 = .ok (.ifCond .eq 8, 3) := by decide +kernel
theorem d_Mac_compute_188 : decode m_Mac_compute.2.1 188 = .ok (.iload 6, 2) := by decide +kernel
theorem d_Mac_compute_190 : decode m_Mac_compute.2.1 190 = .ok (.goto 5, 3) := by decide +kernel
theorem d_Mac_compute_193 : decode m_Mac_compute.2.1 193 = .ok (.iload 4, 2) := by decide +kernel
theorem d_Mac_compute_195 : decode m_Mac_compute.2.1 195 = .ok (.ireturn, 1) := by decide +kernel
theorem d_Mac_compute_196 : decode m_Mac_compute.2.1 196 = .ok (.aload_n 0, 1) := by decide +kernel
theorem d_Mac_compute_197 : decode m_Mac_compute.2.1 197 = .ok (.getfield 37, 3) := by decide +kernel
theorem d_Mac_compute_200 : decode m_Mac_compute.2.1 200 = .ok (.iload_n 3, 1) := by decide +kernel
theorem d_Mac_compute_201 : decode m_Mac_compute.2.1 201 = .ok (.invokevirtual 125, 3) := by decide +kernel
theorem d_Mac_compute_204 : decode m_Mac_compute.2.1 204 = .ok (.ifCond .eq 8, 3) := by decide +kernel
theorem d_Mac_compute_207 : decode m_Mac_compute.2.1 207 = .ok (.iload 4, 2) := by decide +kernel
theorem d_Mac_compute_209 : decode m_Mac_compute.2.1 209 = .ok (.goto 5, 3) := by decide +kernel
theorem d_Mac_compute_212 : decode m_Mac_compute.2.1 212 = .ok (.iload 6, 2) := by decide +kernel
theorem d_Mac_compute_214 : decode m_Mac_compute.2.1 214 = .ok (.ireturn, 1) := by decide +kernel
theorem d_Mac_compute_215 : decode m_Mac_compute.2.1 215 = .ok (.aload_n 0, 1) := by decide +kernel
theorem d_Mac_compute_216 : decode m_Mac_compute.2.1 216 = .ok (.iload_n 3, 1) := by decide +kernel
theorem d_Mac_compute_217 : decode m_Mac_compute.2.1 217 = .ok (.iload 4, 2) := by decide +kernel
theorem d_Mac_compute_219 : decode m_Mac_compute.2.1 219 = .ok (.iload 5, 2) := by decide +kernel
theorem d_Mac_compute_221 : decode m_Mac_compute.2.1 221 = .ok (.invokevirtual 128, 3) := by decide +kernel
theorem d_Mac_compute_224 : decode m_Mac_compute.2.1 224 = .ok (.iload 6, 2) := by decide +kernel
theorem d_Mac_compute_226 : decode m_Mac_compute.2.1 226 = .ok (.ireturn, 1) := by decide +kernel
theorem d_Mac_compute_227 : decode m_Mac_compute.2.1 227 = .ok (.aload_n 0, 1) := by decide +kernel
theorem d_Mac_compute_228 : decode m_Mac_compute.2.1 228 = .ok (.getfield 28, 3) := by decide +kernel
theorem d_Mac_compute_231 : decode m_Mac_compute.2.1 231 = .ok (.aload_n 0, 1) := by decide +kernel
theorem d_Mac_compute_232 : decode m_Mac_compute.2.1 232 = .ok (.getfield 37, 3) := by decide +kernel
theorem d_Mac_compute_235 : decode m_Mac_compute.2.1 235 = .ok (.iload_n 3, 1) := by decide +kernel
theorem d_Mac_compute_236 : decode m_Mac_compute.2.1 236 = .ok (.iload 4, 2) := by decide +kernel
theorem d_Mac_compute_238 : decode m_Mac_compute.2.1 238 = .ok (.invokevirtual 132, 3) := by decide +kernel
theorem d_Mac_compute_241 : decode m_Mac_compute.2.1 241 = .ok (.ifCond .eq 8, 3) := by decide +kernel
theorem d_Mac_compute_244 : decode m_Mac_compute.2.1 244 = .ok (.iload 6, 2) := by decide +kernel
theorem d_Mac_compute_246 : decode m_Mac_compute.2.1 246 = .ok (.goto 8, 3) := by decide +kernel
theorem d_Mac_compute_249 : decode m_Mac_compute.2.1 249 = .ok (.aload_n 0, 1) := by decide +kernel
theorem d_Mac_compute_250 : decode m_Mac_compute.2.1 250 = .ok (.iconst 2, 1) := by decide +kernel
theorem d_Mac_compute_251 : decode m_Mac_compute.2.1 251 = .ok (.invokevirtual 85, 3) := by decide +kernel
theorem d_Mac_compute_254 : decode m_Mac_compute.2.1 254 = .ok (.ireturn, 1) := by decide +kernel
theorem d_Mac_compute_255 : decode m_Mac_compute.2.1 255 = .ok (.iload_n 3, 1) := by decide +kernel
theorem d_Mac_compute_256 : decode m_Mac_compute.2.1 256 = .ok (.ireturn, 1) := by decide +kernel
theorem d_Mac_compute_257 : decode m_Mac_compute.2.1 257 = .ok (.aload_n 0, 1) := by decide +kernel
theorem d_Mac_compute_258 : decode m_Mac_compute.2.1 258 = .ok (.iload_n 1, 1) := by decide +kernel
theorem d_Mac_compute_259 : decode m_Mac_compute.2.1 259 = .ok (.iload_n 3, 1) := by decide +kernel
theorem d_Mac_compute_260 : decode m_Mac_compute.2.1 260 = .ok (.iload 5, 2) := by decide +kernel
theorem d_Mac_compute_262 : decode m_Mac_compute.2.1 262 = .ok (.invokevirtual 136, 3) := by decide +kernel
theorem d_Mac_compute_265 : decode m_Mac_compute.2.1 265 = .ok (.ifCond .eq 8, 3) := by decide +kernel
theorem d_Mac_compute_268 : decode m_Mac_compute.2.1 268 = .ok (.iload 4, 2) := by decide +kernel
theorem d_Mac_compute_270 : decode m_Mac_compute.2.1 270 = .ok (.goto 5, 3) := by decide +kernel
theorem d_Mac_compute_273 : decode m_Mac_compute.2.1 273 = .ok (.iload 6, 2) := by decide +kernel
theorem d_Mac_compute_275 : decode m_Mac_compute.2.1 275 = .ok (.ireturn, 1) := by decide +kernel
theorem d_Mac_sum_0 : decode m_Mac_sum.2.1 0 = .ok (.aload_n 0, 1) := by decide +kernel
theorem d_Mac_sum_1 : decode m_Mac_sum.2.1 1 = .ok (.getfield 37, 3) := by decide +kernel
theorem d_Mac_sum_4 : decode m_Mac_sum.2.1 4 = .ok (.iload_n 1, 1) := by decide +kernel
theorem d_Mac_sum_5 : decode m_Mac_sum.2.1 5 = .ok (.invokevirtual 125, 3) := by decide +kernel
theorem d_Mac_sum_8 : decode m_Mac_sum.2.1 8 = .ok (.ifCond .eq 42, 3) := by decide +kernel
theorem d_Mac_sum_11 : decode m_Mac_sum.2.1 11 = .ok (.aload_n 0, 1) := by decide +kernel
theorem d_Mac_sum_12 : decode m_Mac_sum.2.1 12 = .ok (.getfield 37, 3) := by decide +kernel
theorem d_Mac_sum_15 : decode m_Mac_sum.2.1 15 = .ok (.iload_n 2, 1) := by decide +kernel
theorem d_Mac_sum_16 : decode m_Mac_sum.2.1 16 = .ok (.invokevirtual 125, 3) := by decide +kernel
theorem d_Mac_sum_19 : decode m_Mac_sum.2.1 19 = .ok (.ifCond .eq 31, 3) := by decide +kernel
theorem d_Mac_sum_22 : decode m_Mac_sum.2.1 22 = .ok (.aload_n 0, 1) := by decide +kernel
theorem d_Mac_sum_23 : decode m_Mac_sum.2.1 23 = .ok (.getfield 37, 3) := by decide +kernel
theorem d_Mac_sum_26 : decode m_Mac_sum.2.1 26 = .ok (.iload_n 3, 1) := by decide +kernel
theorem d_Mac_sum_27 : decode m_Mac_sum.2.1 27 = .ok (.aload_n 0, 1) := by decide +kernel
theorem d_Mac_sum_28 : decode m_Mac_sum.2.1 28 = .ok (.getfield 37, 3) := by decide +kernel
theorem d_Mac_sum_31 : decode m_Mac_sum.2.1 31 = .ok (.iload_n 1, 1) := by decide +kernel
theorem d_Mac_sum_32 : decode m_Mac_sum.2.1 32 = .ok (.invokevirtual 163, 3) := by decide +kernel
theorem d_Mac_sum_35 : decode m_Mac_sum.2.1 35 = .ok (.aload_n 0, 1) := by decide +kernel
theorem d_Mac_sum_36 : decode m_Mac_sum.2.1 36 = .ok (.getfield 37, 3) := by decide +kernel
theorem d_Mac_sum_39 : decode m_Mac_sum.2.1 39 = .ok (.iload_n 2, 1) := by decide +kernel
theorem d_Mac_sum_40 : decode m_Mac_sum.2.1 40 = .ok (.invokevirtual 163, 3) := by decide +kernel
theorem d_Mac_sum_43 : decode m_Mac_sum.2.1 43 = .ok (.ladd, 1) := by decide +kernel
theorem d_Mac_sum_44 : decode m_Mac_sum.2.1 44 = .ok (.invokevirtual 118, 3) := by decide +kernel
theorem d_Mac_sum_47 : decode m_Mac_sum.2.1 47 = .ok (.goto 11, 3) := by decide +kernel
theorem d_Mac_sum_50 : decode m_Mac_sum.2.1 50 = .ok (.aload_n 0, 1) := by decide +kernel
theorem d_Mac_sum_51 : decode m_Mac_sum.2.1 51 = .ok (.getfield 37, 3) := by decide +kernel
theorem d_Mac_sum_54 : decode m_Mac_sum.2.1 54 = .ok (.iload_n 3, 1) := by decide +kernel
theorem d_Mac_sum_55 : decode m_Mac_sum.2.1 55 = .ok (.invokevirtual 122, 3) := by decide +kernel
theorem d_Mac_sum_58 : decode m_Mac_sum.2.1 58 = .ok (.return_, 1) := by decide +kernel
theorem d_Mac_holds_0 : decode m_Mac_holds.2.1 0 = .ok (.aload_n 0, 1) := by decide +kernel
theorem d_Mac_holds_1 : decode m_Mac_holds.2.1 1 = .ok (.getfield 37, 3) := by decide +kernel
theorem d_Mac_holds_4 : decode m_Mac_holds.2.1 4 = .ok (.iload_n 2, 1) := by decide +kernel
theorem d_Mac_holds_5 : decode m_Mac_holds.2.1 5 = .ok (.invokevirtual 125, 3) := by decide +kernel
theorem d_Mac_holds_8 : decode m_Mac_holds.2.1 8 = .ok (.ifCond .eq 14, 3) := by decide +kernel
theorem d_Mac_holds_11 : decode m_Mac_holds.2.1 11 = .ok (.aload_n 0, 1) := by decide +kernel
theorem d_Mac_holds_12 : decode m_Mac_holds.2.1 12 = .ok (.getfield 37, 3) := by decide +kernel
theorem d_Mac_holds_15 : decode m_Mac_holds.2.1 15 = .ok (.iload_n 3, 1) := by decide +kernel
theorem d_Mac_holds_16 : decode m_Mac_holds.2.1 16 = .ok (.invokevirtual 125, 3) := by decide +kernel
theorem d_Mac_holds_19 : decode m_Mac_holds.2.1 19 = .ok (.ifCond .ne 5, 3) := by decide +kernel
theorem d_Mac_holds_22 : decode m_Mac_holds.2.1 22 = .ok (.iconst 0, 1) := by decide +kernel
theorem d_Mac_holds_23 : decode m_Mac_holds.2.1 23 = .ok (.ireturn, 1) := by decide +kernel
theorem d_Mac_holds_24 : decode m_Mac_holds.2.1 24 = .ok (.aload_n 0, 1) := by decide +kernel
theorem d_Mac_holds_25 : decode m_Mac_holds.2.1 25 = .ok (.getfield 37, 3) := by decide +kernel
theorem d_Mac_holds_28 : decode m_Mac_holds.2.1 28 = .ok (.iload_n 2, 1) := by decide +kernel
theorem d_Mac_holds_29 : decode m_Mac_holds.2.1 29 = .ok (.invokevirtual 163, 3) := by decide +kernel
theorem d_Mac_holds_32 : decode m_Mac_holds.2.1 32 = .ok (.aload_n 0, 1) := by decide +kernel
theorem d_Mac_holds_33 : decode m_Mac_holds.2.1 33 = .ok (.getfield 37, 3) := by decide +kernel
theorem d_Mac_holds_36 : decode m_Mac_holds.2.1 36 = .ok (.iload_n 3, 1) := by decide +kernel
theorem d_Mac_holds_37 : decode m_Mac_holds.2.1 37 = .ok (.invokevirtual 163, 3) := by decide +kernel
theorem d_Mac_holds_40 : decode m_Mac_holds.2.1 40 = .ok (.invokestatic 193, 3) := by decide +kernel
theorem d_Mac_holds_43 : decode m_Mac_holds.2.1 43 = .ok (.istore 4, 2) := by decide +kernel
theorem d_Mac_holds_45 : decode m_Mac_holds.2.1 45 = .ok (.iload_n 1, 1) := by decide +kernel
theorem d_Mac_holds_46 : decode m_Mac_holds.2.1 46 = .ok (.tableswitch 89 9 13 #[34, 45, 56, 67, 78], 34) := by decide +kernel
theorem d_Mac_holds_80 : decode m_Mac_holds.2.1 80 = .ok (.iload 4, 2) := by decide +kernel
theorem d_Mac_holds_82 : decode m_Mac_holds.2.1 82 = .ok (.ifCond .ne 7, 3) := by decide +kernel
theorem d_Mac_holds_85 : decode m_Mac_holds.2.1 85 = .ok (.iconst 1, 1) := by decide +kernel
theorem d_Mac_holds_86 : decode m_Mac_holds.2.1 86 = .ok (.goto 4, 3) := by decide +kernel
theorem d_Mac_holds_89 : decode m_Mac_holds.2.1 89 = .ok (.iconst 0, 1) := by decide +kernel
theorem d_Mac_holds_90 : decode m_Mac_holds.2.1 90 = .ok (.ireturn, 1) := by decide +kernel
theorem d_Mac_holds_91 : decode m_Mac_holds.2.1 91 = .ok (.iload 4, 2) := by decide +kernel
theorem d_Mac_holds_93 : decode m_Mac_holds.2.1 93 = .ok (.ifCond .eq 7, 3) := by decide +kernel
theorem d_Mac_holds_96 : decode m_Mac_holds.2.1 96 = .ok (.iconst 1, 1) := by decide +kernel
theorem d_Mac_holds_97 : decode m_Mac_holds.2.1 97 = .ok (.goto 4, 3) := by decide +kernel
theorem d_Mac_holds_100 : decode m_Mac_holds.2.1 100 = .ok (.iconst 0, 1) := by decide +kernel
theorem d_Mac_holds_101 : decode m_Mac_holds.2.1 101 = .ok (.ireturn, 1) := by decide +kernel
theorem d_Mac_holds_102 : decode m_Mac_holds.2.1 102 = .ok (.iload 4, 2) := by decide +kernel
theorem d_Mac_holds_104 : decode m_Mac_holds.2.1 104 = .ok (.ifCond .ge 7, 3) := by decide +kernel
theorem d_Mac_holds_107 : decode m_Mac_holds.2.1 107 = .ok (.iconst 1, 1) := by decide +kernel
theorem d_Mac_holds_108 : decode m_Mac_holds.2.1 108 = .ok (.goto 4, 3) := by decide +kernel
theorem d_Mac_holds_111 : decode m_Mac_holds.2.1 111 = .ok (.iconst 0, 1) := by decide +kernel
theorem d_Mac_holds_112 : decode m_Mac_holds.2.1 112 = .ok (.ireturn, 1) := by decide +kernel
theorem d_Mac_holds_113 : decode m_Mac_holds.2.1 113 = .ok (.iload 4, 2) := by decide +kernel
theorem d_Mac_holds_115 : decode m_Mac_holds.2.1 115 = .ok (.ifCond .gt 7, 3) := by decide +kernel
theorem d_Mac_holds_118 : decode m_Mac_holds.2.1 118 = .ok (.iconst 1, 1) := by decide +kernel
theorem d_Mac_holds_119 : decode m_Mac_holds.2.1 119 = .ok (.goto 4, 3) := by decide +kernel
theorem d_Mac_holds_122 : decode m_Mac_holds.2.1 122 = .ok (.iconst 0, 1) := by decide +kernel
theorem d_Mac_holds_123 : decode m_Mac_holds.2.1 123 = .ok (.ireturn, 1) := by decide +kernel
theorem d_Mac_holds_124 : decode m_Mac_holds.2.1 124 = .ok (.iload 4, 2) := by decide +kernel
theorem d_Mac_holds_126 : decode m_Mac_holds.2.1 126 = .ok (.ifCond .le 7, 3) := by decide +kernel
theorem d_Mac_holds_129 : decode m_Mac_holds.2.1 129 = .ok (.iconst 1, 1) := by decide +kernel
theorem d_Mac_holds_130 : decode m_Mac_holds.2.1 130 = .ok (.goto 4, 3) := by decide +kernel
theorem d_Mac_holds_133 : decode m_Mac_holds.2.1 133 = .ok (.iconst 0, 1) := by decide +kernel
theorem d_Mac_holds_134 : decode m_Mac_holds.2.1 134 = .ok (.ireturn, 1) := by decide +kernel
theorem d_Mac_holds_135 : decode m_Mac_holds.2.1 135 = .ok (.iload 4, 2) := by decide +kernel
theorem d_Mac_holds_137 : decode m_Mac_holds.2.1 137 = .ok (.ifCond .lt 7, 3) := by decide +kernel
theorem d_Mac_holds_140 : decode m_Mac_holds.2.1 140 = .ok (.iconst 1, 1) := by decide +kernel
theorem d_Mac_holds_141 : decode m_Mac_holds.2.1 141 = .ok (.goto 4, 3) := by decide +kernel
theorem d_Mac_holds_144 : decode m_Mac_holds.2.1 144 = .ok (.iconst 0, 1) := by decide +kernel
theorem d_Mac_holds_145 : decode m_Mac_holds.2.1 145 = .ok (.ireturn, 1) := by decide +kernel
