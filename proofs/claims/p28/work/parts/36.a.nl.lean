theorem dL_cell_0 : decode cL_cell 0 = .ok (.iload_n 1, 1) := by decide +kernel
theorem dL_cell_1 : decode cL_cell 1 = .ok (.aload_n 0, 1) := by decide +kernel
theorem dL_cell_2 : decode cL_cell 2 = .ok (.arraylength, 1) := by decide +kernel
theorem dL_cell_3 : decode cL_cell 3 = .ok (.if_icmp .ge 9, 3) := by decide +kernel
theorem dL_cell_6 : decode cL_cell 6 = .ok (.aload_n 0, 1) := by decide +kernel
theorem dL_cell_7 : decode cL_cell 7 = .ok (.iload_n 1, 1) := by decide +kernel
theorem dL_cell_8 : decode cL_cell 8 = .ok (.iaload, 1) := by decide +kernel
theorem dL_cell_9 : decode cL_cell 9 = .ok (.goto 13, 3) := by decide +kernel
theorem dL_cell_12 : decode cL_cell 12 = .ok (.ldc 7, 2) := by decide +kernel
theorem dL_cell_14 : decode cL_cell 14 = .ok (.iload_n 1, 1) := by decide +kernel
theorem dL_cell_15 : decode cL_cell 15 = .ok (.bipush 39, 2) := by decide +kernel
theorem dL_cell_17 : decode cL_cell 17 = .ok (.iadd, 1) := by decide +kernel
theorem dL_cell_18 : decode cL_cell 18 = .ok (.imul, 1) := by decide +kernel
theorem dL_cell_19 : decode cL_cell 19 = .ok (.ldc 8, 2) := by decide +kernel
theorem dL_cell_21 : decode cL_cell 21 = .ok (.iadd, 1) := by decide +kernel
theorem dL_cell_22 : decode cL_cell 22 = .ok (.ireturn, 1) := by decide +kernel
theorem dL_low_0 : decode cL_low 0 = .ok (.iload_n 0, 1) := by decide +kernel
theorem dL_low_1 : decode cL_low 1 = .ok (.ldc 9, 2) := by decide +kernel
theorem dL_low_3 : decode cL_low 3 = .ok (.iand, 1) := by decide +kernel
theorem dL_low_4 : decode cL_low 4 = .ok (.iload_n 1, 1) := by decide +kernel
theorem dL_low_5 : decode cL_low 5 = .ok (.irem, 1) := by decide +kernel
theorem dL_low_6 : decode cL_low 6 = .ok (.ireturn, 1) := by decide +kernel
theorem dL_calls_0 : decode cL_calls 0 = .ok (.iload_n 1, 1) := by decide +kernel
theorem dL_calls_1 : decode cL_calls 1 = .ok (.ifCond .ne 11, 3) := by decide +kernel
theorem dL_calls_4 : decode cL_calls 4 = .ok (.aload_n 0, 1) := by decide +kernel
theorem dL_calls_5 : decode cL_calls 5 = .ok (.iload_n 2, 1) := by decide +kernel
theorem dL_calls_6 : decode cL_calls 6 = .ok (.invokevirtual 10, 3) := by decide +kernel
theorem dL_calls_9 : decode cL_calls 9 = .ok (.goto 113, 3) := by decide +kernel
theorem dL_calls_12 : decode cL_calls 12 = .ok (.iload_n 1, 1) := by decide +kernel
theorem dL_calls_13 : decode cL_calls 13 = .ok (.iconst 1, 1) := by decide +kernel
theorem dL_calls_14 : decode cL_calls 14 = .ok (.if_icmp .ne 12, 3) := by decide +kernel
theorem dL_calls_17 : decode cL_calls 17 = .ok (.aload_n 0, 1) := by decide +kernel
theorem dL_calls_18 : decode cL_calls 18 = .ok (.iload_n 2, 1) := by decide +kernel
theorem dL_calls_19 : decode cL_calls 19 = .ok (.iload_n 3, 1) := by decide +kernel
theorem dL_calls_20 : decode cL_calls 20 = .ok (.invokevirtual 16, 3) := by decide +kernel
theorem dL_calls_23 : decode cL_calls 23 = .ok (.goto 99, 3) := by decide +kernel
theorem dL_calls_26 : decode cL_calls 26 = .ok (.iload_n 1, 1) := by decide +kernel
theorem dL_calls_27 : decode cL_calls 27 = .ok (.iconst 2, 1) := by decide +kernel
theorem dL_calls_28 : decode cL_calls 28 = .ok (.if_icmp .ne 11, 3) := by decide +kernel
theorem dL_calls_31 : decode cL_calls 31 = .ok (.aload_n 0, 1) := by decide +kernel
theorem dL_calls_32 : decode cL_calls 32 = .ok (.iload_n 2, 1) := by decide +kernel
theorem dL_calls_33 : decode cL_calls 33 = .ok (.invokevirtual 20, 3) := by decide +kernel
theorem dL_calls_36 : decode cL_calls 36 = .ok (.goto 86, 3) := by decide +kernel
theorem dL_calls_39 : decode cL_calls 39 = .ok (.iload_n 1, 1) := by decide +kernel
theorem dL_calls_40 : decode cL_calls 40 = .ok (.iconst 3, 1) := by decide +kernel
theorem dL_calls_41 : decode cL_calls 41 = .ok (.if_icmp .ne 11, 3) := by decide +kernel
theorem dL_calls_44 : decode cL_calls 44 = .ok (.aload_n 0, 1) := by decide +kernel
theorem dL_calls_45 : decode cL_calls 45 = .ok (.iload_n 2, 1) := by decide +kernel
theorem dL_calls_46 : decode cL_calls 46 = .ok (.invokevirtual 23, 3) := by decide +kernel
theorem dL_calls_49 : decode cL_calls 49 = .ok (.goto 73, 3) := by decide +kernel
theorem dL_calls_52 : decode cL_calls 52 = .ok (.iload_n 1, 1) := by decide +kernel
theorem dL_calls_53 : decode cL_calls 53 = .ok (.iconst 4, 1) := by decide +kernel
theorem dL_calls_54 : decode cL_calls 54 = .ok (.if_icmp .ne 19, 3) := by decide +kernel
theorem dL_calls_57 : decode cL_calls 57 = .ok (.aload_n 0, 1) := by decide +kernel
theorem dL_calls_58 : decode cL_calls 58 = .ok (.iload_n 2, 1) := by decide +kernel
theorem dL_calls_59 : decode cL_calls 59 = .ok (.invokevirtual 26, 3) := by decide +kernel
theorem dL_calls_62 : decode cL_calls 62 = .ok (.ifCond .eq 7, 3) := by decide +kernel
theorem dL_calls_65 : decode cL_calls 65 = .ok (.iconst 1, 1) := by decide +kernel
theorem dL_calls_66 : decode cL_calls 66 = .ok (.goto 56, 3) := by decide +kernel
theorem dL_calls_69 : decode cL_calls 69 = .ok (.iconst 0, 1) := by decide +kernel
theorem dL_calls_70 : decode cL_calls 70 = .ok (.goto 52, 3) := by decide +kernel
theorem dL_calls_73 : decode cL_calls 73 = .ok (.iload_n 1, 1) := by decide +kernel
theorem dL_calls_74 : decode cL_calls 74 = .ok (.iconst 5, 1) := by decide +kernel
theorem dL_calls_75 : decode cL_calls 75 = .ok (.if_icmp .ne 11, 3) := by decide +kernel
theorem dL_calls_78 : decode cL_calls 78 = .ok (.aload_n 0, 1) := by decide +kernel
theorem dL_calls_79 : decode cL_calls 79 = .ok (.iload_n 2, 1) := by decide +kernel
theorem dL_calls_80 : decode cL_calls 80 = .ok (.invokevirtual 30, 3) := by decide +kernel
theorem dL_calls_83 : decode cL_calls 83 = .ok (.goto 39, 3) := by decide +kernel
theorem dL_calls_86 : decode cL_calls 86 = .ok (.iload_n 1, 1) := by decide +kernel
theorem dL_calls_87 : decode cL_calls 87 = .ok (.bipush 6, 2) := by decide +kernel
theorem dL_calls_89 : decode cL_calls 89 = .ok (.if_icmp .ne 11, 3) := by decide +kernel
theorem dL_calls_92 : decode cL_calls 92 = .ok (.aload_n 0, 1) := by decide +kernel
theorem dL_calls_93 : decode cL_calls 93 = .ok (.iload_n 2, 1) := by decide +kernel
theorem dL_calls_94 : decode cL_calls 94 = .ok (.invokevirtual 33, 3) := by decide +kernel
theorem dL_calls_97 : decode cL_calls 97 = .ok (.goto 25, 3) := by decide +kernel
theorem dL_calls_100 : decode cL_calls 100 = .ok (.iload_n 1, 1) := by decide +kernel
theorem dL_calls_101 : decode cL_calls 101 = .ok (.bipush 7, 2) := by decide +kernel
theorem dL_calls_103 : decode cL_calls 103 = .ok (.if_icmp .ne 11, 3) := by decide +kernel
theorem dL_calls_106 : decode cL_calls 106 = .ok (.aload_n 0, 1) := by decide +kernel
theorem dL_calls_107 : decode cL_calls 107 = .ok (.iload_n 2, 1) := by decide +kernel
theorem dL_calls_108 : decode cL_calls 108 = .ok (.invokevirtual 36, 3) := by decide +kernel
theorem dL_calls_111 : decode cL_calls 111 = .ok (.goto 11, 3) := by decide +kernel
theorem dL_calls_114 : decode cL_calls 114 = .ok (.aload_n 0, 1) := by decide +kernel
theorem dL_calls_115 : decode cL_calls 115 = .ok (.iload_n 2, 1) := by decide +kernel
theorem dL_calls_116 : decode cL_calls 116 = .ok (.iload_n 3, 1) := by decide +kernel
theorem dL_calls_117 : decode cL_calls 117 = .ok (.iload 4, 2) := by decide +kernel
theorem dL_calls_119 : decode cL_calls 119 = .ok (.invokevirtual 39, 3) := by decide +kernel
theorem dL_calls_122 : decode cL_calls 122 = .ok (.ireturn, 1) := by decide +kernel
theorem dL_calls_123 : decode cL_calls 123 = .ok (.astore 5, 2) := by decide +kernel
theorem dL_calls_125 : decode cL_calls 125 = .ok (.bipush (-3), 2) := by decide +kernel
theorem dL_calls_127 : decode cL_calls 127 = .ok (.ireturn, 1) := by decide +kernel
theorem dL_lives_0 : decode cL_lives 0 = .ok (.iload_n 0, 1) := by decide +kernel
theorem dL_lives_1 : decode cL_lives 1 = .ok (.ifCond .lt 25, 3) := by decide +kernel
theorem dL_lives_4 : decode cL_lives 4 = .ok (.aload_n 1, 1) := by decide +kernel
theorem dL_lives_5 : decode cL_lives 5 = .ok (.iload_n 0, 1) := by decide +kernel
theorem dL_lives_6 : decode cL_lives 6 = .ok (.iaload, 1) := by decide +kernel
theorem dL_lives_7 : decode cL_lives 7 = .ok (.ifCond .lt 19, 3) := by decide +kernel
theorem dL_lives_10 : decode cL_lives 10 = .ok (.aload_n 2, 1) := by decide +kernel
theorem dL_lives_11 : decode cL_lives 11 = .ok (.bipush 10, 2) := by decide +kernel
theorem dL_lives_13 : decode cL_lives 13 = .ok (.aload_n 1, 1) := by decide +kernel
theorem dL_lives_14 : decode cL_lives 14 = .ok (.iload_n 0, 1) := by decide +kernel
theorem dL_lives_15 : decode cL_lives 15 = .ok (.iaload, 1) := by decide +kernel
theorem dL_lives_16 : decode cL_lives 16 = .ok (.iadd, 1) := by decide +kernel
theorem dL_lives_17 : decode cL_lives 17 = .ok (.iaload, 1) := by decide +kernel
theorem dL_lives_18 : decode cL_lives 18 = .ok (.iconst 1, 1) := by decide +kernel
theorem dL_lives_19 : decode cL_lives 19 = .ok (.if_icmp .ne 7, 3) := by decide +kernel
theorem dL_lives_22 : decode cL_lives 22 = .ok (.iconst 1, 1) := by decide +kernel
theorem dL_lives_23 : decode cL_lives 23 = .ok (.goto 4, 3) := by decide +kernel
theorem dL_lives_26 : decode cL_lives 26 = .ok (.iconst 0, 1) := by decide +kernel
theorem dL_lives_27 : decode cL_lives 27 = .ok (.ireturn, 1) := by decide +kernel
theorem dL_isIn_0 : decode cL_isIn 0 = .ok (.iload_n 0, 1) := by decide +kernel
theorem dL_isIn_1 : decode cL_isIn 1 = .ok (.iload_n 1, 1) := by decide +kernel
theorem dL_isIn_2 : decode cL_isIn 2 = .ok (.isub, 1) := by decide +kernel
theorem dL_isIn_3 : decode cL_isIn 3 = .ok (.bipush 127, 2) := by decide +kernel
theorem dL_isIn_5 : decode cL_isIn 5 = .ok (.iadd, 1) := by decide +kernel
theorem dL_isIn_6 : decode cL_isIn 6 = .ok (.bipush 64, 2) := by decide +kernel
theorem dL_isIn_8 : decode cL_isIn 8 = .ok (.irem, 1) := by decide +kernel
theorem dL_isIn_9 : decode cL_isIn 9 = .ok (.iload_n 2, 1) := by decide +kernel
theorem dL_isIn_10 : decode cL_isIn 10 = .ok (.iload_n 1, 1) := by decide +kernel
theorem dL_isIn_11 : decode cL_isIn 11 = .ok (.isub, 1) := by decide +kernel
theorem dL_isIn_12 : decode cL_isIn 12 = .ok (.bipush 127, 2) := by decide +kernel
theorem dL_isIn_14 : decode cL_isIn 14 = .ok (.iadd, 1) := by decide +kernel
theorem dL_isIn_15 : decode cL_isIn 15 = .ok (.bipush 64, 2) := by decide +kernel
theorem dL_isIn_17 : decode cL_isIn 17 = .ok (.irem, 1) := by decide +kernel
theorem dL_isIn_18 : decode cL_isIn 18 = .ok (.if_icmp .gt 7, 3) := by decide +kernel
theorem dL_isIn_21 : decode cL_isIn 21 = .ok (.iconst 1, 1) := by decide +kernel
theorem dL_isIn_22 : decode cL_isIn 22 = .ok (.goto 4, 3) := by decide +kernel
theorem dL_isIn_25 : decode cL_isIn 25 = .ok (.iconst 0, 1) := by decide +kernel
theorem dL_isIn_26 : decode cL_isIn 26 = .ok (.ireturn, 1) := by decide +kernel
theorem dL_next_0 : decode cL_next 0 = .ok (.iconst 4, 1) := by decide +kernel
theorem dL_next_1 : decode cL_next 1 = .ok (.aload_n 1, 1) := by decide +kernel
theorem dL_next_2 : decode cL_next 2 = .ok (.iload_n 0, 1) := by decide +kernel
theorem dL_next_3 : decode cL_next 3 = .ok (.iaload, 1) := by decide +kernel
theorem dL_next_4 : decode cL_next 4 = .ok (.imul, 1) := by decide +kernel
theorem dL_next_5 : decode cL_next 5 = .ok (.istore 4, 2) := by decide +kernel
theorem dL_next_7 : decode cL_next 7 = .ok (.aload_n 3, 1) := by decide +kernel
theorem dL_next_8 : decode cL_next 8 = .ok (.iload 4, 2) := by decide +kernel
theorem dL_next_10 : decode cL_next 10 = .ok (.iaload, 1) := by decide +kernel
theorem dL_next_11 : decode cL_next 11 = .ok (.aload_n 1, 1) := by decide +kernel
theorem dL_next_12 : decode cL_next 12 = .ok (.aload_n 2, 1) := by decide +kernel
theorem dL_next_13 : decode cL_next 13 = .ok (.invokestatic 45, 3) := by decide +kernel
theorem dL_next_16 : decode cL_next 16 = .ok (.ifCond .eq 10, 3) := by decide +kernel
theorem dL_next_19 : decode cL_next 19 = .ok (.aload_n 3, 1) := by decide +kernel
theorem dL_next_20 : decode cL_next 20 = .ok (.iload 4, 2) := by decide +kernel
theorem dL_next_22 : decode cL_next 22 = .ok (.iaload, 1) := by decide +kernel
theorem dL_next_23 : decode cL_next 23 = .ok (.goto 50, 3) := by decide +kernel
theorem dL_next_26 : decode cL_next 26 = .ok (.aload_n 3, 1) := by decide +kernel
theorem dL_next_27 : decode cL_next 27 = .ok (.iload 4, 2) := by decide +kernel
theorem dL_next_29 : decode cL_next 29 = .ok (.iconst 1, 1) := by decide +kernel
theorem dL_next_30 : decode cL_next 30 = .ok (.iadd, 1) := by decide +kernel
theorem dL_next_31 : decode cL_next 31 = .ok (.iaload, 1) := by decide +kernel
theorem dL_next_32 : decode cL_next 32 = .ok (.aload_n 1, 1) := by decide +kernel
theorem dL_next_33 : decode cL_next 33 = .ok (.aload_n 2, 1) := by decide +kernel
theorem dL_next_34 : decode cL_next 34 = .ok (.invokestatic 45, 3) := by decide +kernel
theorem dL_next_37 : decode cL_next 37 = .ok (.ifCond .eq 12, 3) := by decide +kernel
theorem dL_next_40 : decode cL_next 40 = .ok (.aload_n 3, 1) := by decide +kernel
theorem dL_next_41 : decode cL_next 41 = .ok (.iload 4, 2) := by decide +kernel
theorem dL_next_43 : decode cL_next 43 = .ok (.iconst 1, 1) := by decide +kernel
theorem dL_next_44 : decode cL_next 44 = .ok (.iadd, 1) := by decide +kernel
theorem dL_next_45 : decode cL_next 45 = .ok (.iaload, 1) := by decide +kernel
theorem dL_next_46 : decode cL_next 46 = .ok (.goto 27, 3) := by decide +kernel
theorem dL_next_49 : decode cL_next 49 = .ok (.aload_n 3, 1) := by decide +kernel
theorem dL_next_50 : decode cL_next 50 = .ok (.iload 4, 2) := by decide +kernel
theorem dL_next_52 : decode cL_next 52 = .ok (.iconst 2, 1) := by decide +kernel
theorem dL_next_53 : decode cL_next 53 = .ok (.iadd, 1) := by decide +kernel
theorem dL_next_54 : decode cL_next 54 = .ok (.iaload, 1) := by decide +kernel
theorem dL_next_55 : decode cL_next 55 = .ok (.aload_n 1, 1) := by decide +kernel
theorem dL_next_56 : decode cL_next 56 = .ok (.aload_n 2, 1) := by decide +kernel
theorem dL_next_57 : decode cL_next 57 = .ok (.invokestatic 45, 3) := by decide +kernel
theorem dL_next_60 : decode cL_next 60 = .ok (.ifCond .eq 12, 3) := by decide +kernel
theorem dL_next_63 : decode cL_next 63 = .ok (.aload_n 3, 1) := by decide +kernel
theorem dL_next_64 : decode cL_next 64 = .ok (.iload 4, 2) := by decide +kernel
theorem dL_next_66 : decode cL_next 66 = .ok (.iconst 2, 1) := by decide +kernel
theorem dL_next_67 : decode cL_next 67 = .ok (.iadd, 1) := by decide +kernel
theorem dL_next_68 : decode cL_next 68 = .ok (.iaload, 1) := by decide +kernel
theorem dL_next_69 : decode cL_next 69 = .ok (.goto 4, 3) := by decide +kernel
theorem dL_next_72 : decode cL_next 72 = .ok (.iload_n 0, 1) := by decide +kernel
theorem dL_next_73 : decode cL_next 73 = .ok (.ireturn, 1) := by decide +kernel
theorem dL_walk_0 : decode cL_walk 0 = .ok (.iload_n 0, 1) := by decide +kernel
theorem dL_walk_1 : decode cL_walk 1 = .ok (.istore 6, 2) := by decide +kernel
theorem dL_walk_3 : decode cL_walk 3 = .ok (.iconst 0, 1) := by decide +kernel
theorem dL_walk_4 : decode cL_walk 4 = .ok (.istore 7, 2) := by decide +kernel
theorem dL_walk_6 : decode cL_walk 6 = .ok (.iload 7, 2) := by decide +kernel
theorem dL_walk_8 : decode cL_walk 8 = .ok (.bipush 65, 2) := by decide +kernel
theorem dL_walk_10 : decode cL_walk 10 = .ok (.if_icmp .ge 127, 3) := by decide +kernel
theorem dL_walk_13 : decode cL_walk 13 = .ok (.iload 6, 2) := by decide +kernel
theorem dL_walk_15 : decode cL_walk 15 = .ok (.aload_n 2, 1) := by decide +kernel
theorem dL_walk_16 : decode cL_walk 16 = .ok (.aload_n 3, 1) := by decide +kernel
theorem dL_walk_17 : decode cL_walk 17 = .ok (.aload 4, 2) := by decide +kernel
theorem dL_walk_19 : decode cL_walk 19 = .ok (.invokestatic 51, 3) := by decide +kernel
theorem dL_walk_22 : decode cL_walk 22 = .ok (.istore 8, 2) := by decide +kernel
theorem dL_walk_24 : decode cL_walk 24 = .ok (.iload_n 1, 1) := by decide +kernel
theorem dL_walk_25 : decode cL_walk 25 = .ok (.iload 6, 2) := by decide +kernel
theorem dL_walk_27 : decode cL_walk 27 = .ok (.iload 8, 2) := by decide +kernel
theorem dL_walk_29 : decode cL_walk 29 = .ok (.invokestatic 55, 3) := by decide +kernel
theorem dL_walk_32 : decode cL_walk 32 = .ok (.ifCond .eq 12, 3) := by decide +kernel
theorem dL_walk_35 : decode cL_walk 35 = .ok (.bipush 100, 2) := by decide +kernel
theorem dL_walk_37 : decode cL_walk 37 = .ok (.iload 7, 2) := by decide +kernel
theorem dL_walk_39 : decode cL_walk 39 = .ok (.imul, 1) := by decide +kernel
theorem dL_walk_40 : decode cL_walk 40 = .ok (.iload 8, 2) := by decide +kernel
theorem dL_walk_42 : decode cL_walk 42 = .ok (.iadd, 1) := by decide +kernel
theorem dL_walk_43 : decode cL_walk 43 = .ok (.ireturn, 1) := by decide +kernel
theorem dL_walk_44 : decode cL_walk 44 = .ok (.iconst (-1), 1) := by decide +kernel
theorem dL_walk_45 : decode cL_walk 45 = .ok (.istore 9, 2) := by decide +kernel
theorem dL_walk_47 : decode cL_walk 47 = .ok (.iconst 5, 1) := by decide +kernel
theorem dL_walk_48 : decode cL_walk 48 = .ok (.istore 10, 2) := by decide +kernel
theorem dL_walk_50 : decode cL_walk 50 = .ok (.iload 10, 2) := by decide +kernel
theorem dL_walk_52 : decode cL_walk 52 = .ok (.ifCond .lt 65, 3) := by decide +kernel
theorem dL_walk_55 : decode cL_walk 55 = .ok (.aload 5, 2) := by decide +kernel
theorem dL_walk_57 : decode cL_walk 57 = .ok (.bipush 6, 2) := by decide +kernel
theorem dL_walk_59 : decode cL_walk 59 = .ok (.aload_n 2, 1) := by decide +kernel
theorem dL_walk_60 : decode cL_walk 60 = .ok (.iload 6, 2) := by decide +kernel
theorem dL_walk_62 : decode cL_walk 62 = .ok (.iaload, 1) := by decide +kernel
theorem dL_walk_63 : decode cL_walk 63 = .ok (.imul, 1) := by decide +kernel
theorem dL_walk_64 : decode cL_walk 64 = .ok (.iload 10, 2) := by decide +kernel
theorem dL_walk_66 : decode cL_walk 66 = .ok (.iadd, 1) := by decide +kernel
theorem dL_walk_67 : decode cL_walk 67 = .ok (.iaload, 1) := by decide +kernel
theorem dL_walk_68 : decode cL_walk 68 = .ok (.istore 11, 2) := by decide +kernel
theorem dL_walk_70 : decode cL_walk 70 = .ok (.iload 9, 2) := by decide +kernel
theorem dL_walk_72 : decode cL_walk 72 = .ok (.ifCond .ge 35, 3) := by decide +kernel
theorem dL_walk_75 : decode cL_walk 75 = .ok (.iload 11, 2) := by decide +kernel
theorem dL_walk_77 : decode cL_walk 77 = .ok (.aload_n 2, 1) := by decide +kernel
theorem dL_walk_78 : decode cL_walk 78 = .ok (.aload_n 3, 1) := by decide +kernel
theorem dL_walk_79 : decode cL_walk 79 = .ok (.invokestatic 45, 3) := by decide +kernel
theorem dL_walk_82 : decode cL_walk 82 = .ok (.ifCond .eq 25, 3) := by decide +kernel
theorem dL_walk_85 : decode cL_walk 85 = .ok (.iload 11, 2) := by decide +kernel
theorem dL_walk_87 : decode cL_walk 87 = .ok (.iload_n 1, 1) := by decide +kernel
theorem dL_walk_88 : decode cL_walk 88 = .ok (.if_icmp .eq 19, 3) := by decide +kernel
theorem dL_walk_91 : decode cL_walk 91 = .ok (.iload 11, 2) := by decide +kernel
theorem dL_walk_93 : decode cL_walk 93 = .ok (.iload 6, 2) := by decide +kernel
theorem dL_walk_95 : decode cL_walk 95 = .ok (.iload_n 1, 1) := by decide +kernel
theorem dL_walk_96 : decode cL_walk 96 = .ok (.invokestatic 55, 3) := by decide +kernel
theorem dL_walk_99 : decode cL_walk 99 = .ok (.ifCond .eq 8, 3) := by decide +kernel
theorem dL_walk_102 : decode cL_walk 102 = .ok (.iload 11, 2) := by decide +kernel
theorem dL_walk_104 : decode cL_walk 104 = .ok (.goto 5, 3) := by decide +kernel
theorem dL_walk_107 : decode cL_walk 107 = .ok (.iload 9, 2) := by decide +kernel
theorem dL_walk_109 : decode cL_walk 109 = .ok (.istore 9, 2) := by decide +kernel
theorem dL_walk_111 : decode cL_walk 111 = .ok (.iinc 10 (-1), 3) := by decide +kernel
theorem dL_walk_114 : decode cL_walk 114 = .ok (.goto (-64), 3) := by decide +kernel
theorem dL_walk_117 : decode cL_walk 117 = .ok (.iload 9, 2) := by decide +kernel
theorem dL_walk_119 : decode cL_walk 119 = .ok (.ifCond .ge 8, 3) := by decide +kernel
theorem dL_walk_122 : decode cL_walk 122 = .ok (.iload 8, 2) := by decide +kernel
theorem dL_walk_124 : decode cL_walk 124 = .ok (.goto 5, 3) := by decide +kernel
theorem dL_walk_127 : decode cL_walk 127 = .ok (.iload 9, 2) := by decide +kernel
theorem dL_walk_129 : decode cL_walk 129 = .ok (.istore 6, 2) := by decide +kernel
theorem dL_walk_131 : decode cL_walk 131 = .ok (.iinc 7 1, 3) := by decide +kernel
theorem dL_walk_134 : decode cL_walk 134 = .ok (.goto (-128), 3) := by decide +kernel
theorem dL_walk_137 : decode cL_walk 137 = .ok (.iconst (-1), 1) := by decide +kernel
theorem dL_walk_138 : decode cL_walk 138 = .ok (.ireturn, 1) := by decide +kernel
theorem dL_found_0 : decode cL_found 0 = .ok (.iload_n 0, 1) := by decide +kernel
theorem dL_found_1 : decode cL_found 1 = .ok (.iload_n 1, 1) := by decide +kernel
theorem dL_found_2 : decode cL_found 2 = .ok (.aload_n 2, 1) := by decide +kernel
theorem dL_found_3 : decode cL_found 3 = .ok (.aload_n 3, 1) := by decide +kernel
theorem dL_found_4 : decode cL_found 4 = .ok (.aload 4, 2) := by decide +kernel
theorem dL_found_6 : decode cL_found 6 = .ok (.aload 5, 2) := by decide +kernel
theorem dL_found_8 : decode cL_found 8 = .ok (.invokestatic 59, 3) := by decide +kernel
theorem dL_found_11 : decode cL_found 11 = .ok (.istore 6, 2) := by decide +kernel
theorem dL_found_13 : decode cL_found 13 = .ok (.iload 6, 2) := by decide +kernel
theorem dL_found_15 : decode cL_found 15 = .ok (.ifCond .ge 7, 3) := by decide +kernel
theorem dL_found_18 : decode cL_found 18 = .ok (.iconst (-1), 1) := by decide +kernel
theorem dL_found_19 : decode cL_found 19 = .ok (.goto 8, 3) := by decide +kernel
theorem dL_found_22 : decode cL_found 22 = .ok (.iload 6, 2) := by decide +kernel
theorem dL_found_24 : decode cL_found 24 = .ok (.bipush 100, 2) := by decide +kernel
theorem dL_found_26 : decode cL_found 26 = .ok (.irem, 1) := by decide +kernel
theorem dL_found_27 : decode cL_found 27 = .ok (.ireturn, 1) := by decide +kernel
theorem dL_adopt_0 : decode cL_adopt 0 = .ok (.aload_n 3, 1) := by decide +kernel
theorem dL_adopt_1 : decode cL_adopt 1 = .ok (.iconst 4, 1) := by decide +kernel
theorem dL_adopt_2 : decode cL_adopt 2 = .ok (.aload_n 2, 1) := by decide +kernel
theorem dL_adopt_3 : decode cL_adopt 3 = .ok (.iload_n 1, 1) := by decide +kernel
theorem dL_adopt_4 : decode cL_adopt 4 = .ok (.iaload, 1) := by decide +kernel
theorem dL_adopt_5 : decode cL_adopt 5 = .ok (.imul, 1) := by decide +kernel
theorem dL_adopt_6 : decode cL_adopt 6 = .ok (.iaload, 1) := by decide +kernel
theorem dL_adopt_7 : decode cL_adopt 7 = .ok (.istore 4, 2) := by decide +kernel
theorem dL_adopt_9 : decode cL_adopt 9 = .ok (.aload_n 3, 1) := by decide +kernel
theorem dL_adopt_10 : decode cL_adopt 10 = .ok (.iconst 4, 1) := by decide +kernel
theorem dL_adopt_11 : decode cL_adopt 11 = .ok (.aload_n 2, 1) := by decide +kernel
theorem dL_adopt_12 : decode cL_adopt 12 = .ok (.iload_n 0, 1) := by decide +kernel
theorem dL_adopt_13 : decode cL_adopt 13 = .ok (.iaload, 1) := by decide +kernel
theorem dL_adopt_14 : decode cL_adopt 14 = .ok (.imul, 1) := by decide +kernel
theorem dL_adopt_15 : decode cL_adopt 15 = .ok (.iconst 2, 1) := by decide +kernel
theorem dL_adopt_16 : decode cL_adopt 16 = .ok (.iadd, 1) := by decide +kernel
theorem dL_adopt_17 : decode cL_adopt 17 = .ok (.aload_n 3, 1) := by decide +kernel
theorem dL_adopt_18 : decode cL_adopt 18 = .ok (.iconst 4, 1) := by decide +kernel
theorem dL_adopt_19 : decode cL_adopt 19 = .ok (.aload_n 2, 1) := by decide +kernel
theorem dL_adopt_20 : decode cL_adopt 20 = .ok (.iload_n 1, 1) := by decide +kernel
theorem dL_adopt_21 : decode cL_adopt 21 = .ok (.iaload, 1) := by decide +kernel
theorem dL_adopt_22 : decode cL_adopt 22 = .ok (.imul, 1) := by decide +kernel
theorem dL_adopt_23 : decode cL_adopt 23 = .ok (.iconst 1, 1) := by decide +kernel
theorem dL_adopt_24 : decode cL_adopt 24 = .ok (.iadd, 1) := by decide +kernel
theorem dL_adopt_25 : decode cL_adopt 25 = .ok (.iaload, 1) := by decide +kernel
theorem dL_adopt_26 : decode cL_adopt 26 = .ok (.iastore, 1) := by decide +kernel
theorem dL_adopt_27 : decode cL_adopt 27 = .ok (.aload_n 3, 1) := by decide +kernel
theorem dL_adopt_28 : decode cL_adopt 28 = .ok (.iconst 4, 1) := by decide +kernel
theorem dL_adopt_29 : decode cL_adopt 29 = .ok (.aload_n 2, 1) := by decide +kernel
theorem dL_adopt_30 : decode cL_adopt 30 = .ok (.iload_n 0, 1) := by decide +kernel
theorem dL_adopt_31 : decode cL_adopt 31 = .ok (.iaload, 1) := by decide +kernel
theorem dL_adopt_32 : decode cL_adopt 32 = .ok (.imul, 1) := by decide +kernel
theorem dL_adopt_33 : decode cL_adopt 33 = .ok (.iconst 1, 1) := by decide +kernel
theorem dL_adopt_34 : decode cL_adopt 34 = .ok (.iadd, 1) := by decide +kernel
theorem dL_adopt_35 : decode cL_adopt 35 = .ok (.iload 4, 2) := by decide +kernel
theorem dL_adopt_37 : decode cL_adopt 37 = .ok (.iastore, 1) := by decide +kernel
theorem dL_adopt_38 : decode cL_adopt 38 = .ok (.aload_n 3, 1) := by decide +kernel
theorem dL_adopt_39 : decode cL_adopt 39 = .ok (.iconst 4, 1) := by decide +kernel
theorem dL_adopt_40 : decode cL_adopt 40 = .ok (.aload_n 2, 1) := by decide +kernel
theorem dL_adopt_41 : decode cL_adopt 41 = .ok (.iload_n 0, 1) := by decide +kernel
theorem dL_adopt_42 : decode cL_adopt 42 = .ok (.iaload, 1) := by decide +kernel
theorem dL_adopt_43 : decode cL_adopt 43 = .ok (.imul, 1) := by decide +kernel
theorem dL_adopt_44 : decode cL_adopt 44 = .ok (.iload_n 1, 1) := by decide +kernel
theorem dL_adopt_45 : decode cL_adopt 45 = .ok (.iastore, 1) := by decide +kernel
theorem dL_adopt_46 : decode cL_adopt 46 = .ok (.return_, 1) := by decide +kernel
theorem dL_give_0 : decode cL_give 0 = .ok (.bipush 6, 2) := by decide +kernel
theorem dL_give_2 : decode cL_give 2 = .ok (.aload_n 3, 1) := by decide +kernel
theorem dL_give_3 : decode cL_give 3 = .ok (.iload_n 2, 1) := by decide +kernel
theorem dL_give_4 : decode cL_give 4 = .ok (.iaload, 1) := by decide +kernel
theorem dL_give_5 : decode cL_give 5 = .ok (.imul, 1) := by decide +kernel
theorem dL_give_6 : decode cL_give 6 = .ok (.iload_n 1, 1) := by decide +kernel
theorem dL_give_7 : decode cL_give 7 = .ok (.iadd, 1) := by decide +kernel
theorem dL_give_8 : decode cL_give 8 = .ok (.istore 5, 2) := by decide +kernel
theorem dL_give_10 : decode cL_give 10 = .ok (.aload 4, 2) := by decide +kernel
theorem dL_give_12 : decode cL_give 12 = .ok (.iload 5, 2) := by decide +kernel
theorem dL_give_14 : decode cL_give 14 = .ok (.iaload, 1) := by decide +kernel
theorem dL_give_15 : decode cL_give 15 = .ok (.iload_n 0, 1) := by decide +kernel
theorem dL_give_16 : decode cL_give 16 = .ok (.if_icmp .ge 7, 3) := by decide +kernel
theorem dL_give_19 : decode cL_give 19 = .ok (.iconst 1, 1) := by decide +kernel
theorem dL_give_20 : decode cL_give 20 = .ok (.goto 4, 3) := by decide +kernel
theorem dL_give_23 : decode cL_give 23 = .ok (.iconst 0, 1) := by decide +kernel
theorem dL_give_24 : decode cL_give 24 = .ok (.istore 6, 2) := by decide +kernel
theorem dL_give_26 : decode cL_give 26 = .ok (.aload 4, 2) := by decide +kernel
theorem dL_give_28 : decode cL_give 28 = .ok (.iload 5, 2) := by decide +kernel
theorem dL_give_30 : decode cL_give 30 = .ok (.aload 4, 2) := by decide +kernel
theorem dL_give_32 : decode cL_give 32 = .ok (.iload 5, 2) := by decide +kernel
theorem dL_give_34 : decode cL_give 34 = .ok (.iaload, 1) := by decide +kernel
theorem dL_give_35 : decode cL_give 35 = .ok (.iload_n 0, 1) := by decide +kernel
theorem dL_give_36 : decode cL_give 36 = .ok (.if_icmp .ge 7, 3) := by decide +kernel
theorem dL_give_39 : decode cL_give 39 = .ok (.iload_n 0, 1) := by decide +kernel
theorem dL_give_40 : decode cL_give 40 = .ok (.goto 8, 3) := by decide +kernel
theorem dL_give_43 : decode cL_give 43 = .ok (.aload 4, 2) := by decide +kernel
theorem dL_give_45 : decode cL_give 45 = .ok (.iload 5, 2) := by decide +kernel
theorem dL_give_47 : decode cL_give 47 = .ok (.iaload, 1) := by decide +kernel
theorem dL_give_48 : decode cL_give 48 = .ok (.iastore, 1) := by decide +kernel
theorem dL_give_49 : decode cL_give 49 = .ok (.iload 6, 2) := by decide +kernel
theorem dL_give_51 : decode cL_give 51 = .ok (.ireturn, 1) := by decide +kernel
theorem dL_spread_0 : decode cL_spread 0 = .ok (.aload 5, 2) := by decide +kernel
theorem dL_spread_2 : decode cL_spread 2 = .ok (.bipush 6, 2) := by decide +kernel
theorem dL_spread_4 : decode cL_spread 4 = .ok (.aload_n 2, 1) := by decide +kernel
theorem dL_spread_5 : decode cL_spread 5 = .ok (.iload_n 0, 1) := by decide +kernel
theorem dL_spread_6 : decode cL_spread 6 = .ok (.iaload, 1) := by decide +kernel
theorem dL_spread_7 : decode cL_spread 7 = .ok (.imul, 1) := by decide +kernel
theorem dL_spread_8 : decode cL_spread 8 = .ok (.iload_n 1, 1) := by decide +kernel
theorem dL_spread_9 : decode cL_spread 9 = .ok (.iadd, 1) := by decide +kernel
theorem dL_spread_10 : decode cL_spread 10 = .ok (.iaload, 1) := by decide +kernel
theorem dL_spread_11 : decode cL_spread 11 = .ok (.istore 6, 2) := by decide +kernel
theorem dL_spread_13 : decode cL_spread 13 = .ok (.iconst (-1), 1) := by decide +kernel
theorem dL_spread_14 : decode cL_spread 14 = .ok (.istore 7, 2) := by decide +kernel
theorem dL_spread_16 : decode cL_spread 16 = .ok (.iconst (-1), 1) := by decide +kernel
theorem dL_spread_17 : decode cL_spread 17 = .ok (.istore 8, 2) := by decide +kernel
theorem dL_spread_19 : decode cL_spread 19 = .ok (.iconst 0, 1) := by decide +kernel
theorem dL_spread_20 : decode cL_spread 20 = .ok (.istore 9, 2) := by decide +kernel
theorem dL_spread_22 : decode cL_spread 22 = .ok (.iload 9, 2) := by decide +kernel
theorem dL_spread_24 : decode cL_spread 24 = .ok (.iconst 3, 1) := by decide +kernel
theorem dL_spread_25 : decode cL_spread 25 = .ok (.if_icmp .ge 95, 3) := by decide +kernel
theorem dL_spread_28 : decode cL_spread 28 = .ok (.aload 4, 2) := by decide +kernel
theorem dL_spread_30 : decode cL_spread 30 = .ok (.iconst 4, 1) := by decide +kernel
theorem dL_spread_31 : decode cL_spread 31 = .ok (.aload_n 2, 1) := by decide +kernel
theorem dL_spread_32 : decode cL_spread 32 = .ok (.iload_n 0, 1) := by decide +kernel
theorem dL_spread_33 : decode cL_spread 33 = .ok (.iaload, 1) := by decide +kernel
theorem dL_spread_34 : decode cL_spread 34 = .ok (.imul, 1) := by decide +kernel
theorem dL_spread_35 : decode cL_spread 35 = .ok (.iload 9, 2) := by decide +kernel
theorem dL_spread_37 : decode cL_spread 37 = .ok (.iadd, 1) := by decide +kernel
theorem dL_spread_38 : decode cL_spread 38 = .ok (.iaload, 1) := by decide +kernel
theorem dL_spread_39 : decode cL_spread 39 = .ok (.istore 10, 2) := by decide +kernel
theorem dL_spread_41 : decode cL_spread 41 = .ok (.iload 10, 2) := by decide +kernel
theorem dL_spread_43 : decode cL_spread 43 = .ok (.aload_n 2, 1) := by decide +kernel
theorem dL_spread_44 : decode cL_spread 44 = .ok (.aload_n 3, 1) := by decide +kernel
theorem dL_spread_45 : decode cL_spread 45 = .ok (.invokestatic 45, 3) := by decide +kernel
theorem dL_spread_48 : decode cL_spread 48 = .ok (.ifCond .eq 13, 3) := by decide +kernel
theorem dL_spread_51 : decode cL_spread 51 = .ok (.iload 10, 2) := by decide +kernel
theorem dL_spread_53 : decode cL_spread 53 = .ok (.iload_n 0, 1) := by decide +kernel
theorem dL_spread_54 : decode cL_spread 54 = .ok (.if_icmp .eq 7, 3) := by decide +kernel
theorem dL_spread_57 : decode cL_spread 57 = .ok (.iconst 1, 1) := by decide +kernel
theorem dL_spread_58 : decode cL_spread 58 = .ok (.goto 4, 3) := by decide +kernel
theorem dL_spread_61 : decode cL_spread 61 = .ok (.iconst 0, 1) := by decide +kernel
theorem dL_spread_62 : decode cL_spread 62 = .ok (.istore 11, 2) := by decide +kernel
theorem dL_spread_64 : decode cL_spread 64 = .ok (.iload 11, 2) := by decide +kernel
theorem dL_spread_66 : decode cL_spread 66 = .ok (.ifCond .eq 25, 3) := by decide +kernel
theorem dL_spread_69 : decode cL_spread 69 = .ok (.iload 7, 2) := by decide +kernel
theorem dL_spread_71 : decode cL_spread 71 = .ok (.ifCond .lt 20, 3) := by decide +kernel
theorem dL_spread_74 : decode cL_spread 74 = .ok (.iload 8, 2) := by decide +kernel
theorem dL_spread_76 : decode cL_spread 76 = .ok (.ifCond .ge 15, 3) := by decide +kernel
theorem dL_spread_79 : decode cL_spread 79 = .ok (.iload 10, 2) := by decide +kernel
theorem dL_spread_81 : decode cL_spread 81 = .ok (.iload 7, 2) := by decide +kernel
theorem dL_spread_83 : decode cL_spread 83 = .ok (.if_icmp .eq 8, 3) := by decide +kernel
theorem dL_spread_86 : decode cL_spread 86 = .ok (.iload 10, 2) := by decide +kernel
theorem dL_spread_88 : decode cL_spread 88 = .ok (.goto 5, 3) := by decide +kernel
theorem dL_spread_91 : decode cL_spread 91 = .ok (.iload 8, 2) := by decide +kernel
theorem dL_spread_93 : decode cL_spread 93 = .ok (.istore 8, 2) := by decide +kernel
theorem dL_spread_95 : decode cL_spread 95 = .ok (.iload 11, 2) := by decide +kernel
theorem dL_spread_97 : decode cL_spread 97 = .ok (.ifCond .eq 13, 3) := by decide +kernel
theorem dL_spread_100 : decode cL_spread 100 = .ok (.iload 7, 2) := by decide +kernel
theorem dL_spread_102 : decode cL_spread 102 = .ok (.ifCond .ge 8, 3) := by decide +kernel
theorem dL_spread_105 : decode cL_spread 105 = .ok (.iload 10, 2) := by decide +kernel
theorem dL_spread_107 : decode cL_spread 107 = .ok (.goto 5, 3) := by decide +kernel
theorem dL_spread_110 : decode cL_spread 110 = .ok (.iload 7, 2) := by decide +kernel
theorem dL_spread_112 : decode cL_spread 112 = .ok (.istore 7, 2) := by decide +kernel
theorem dL_spread_114 : decode cL_spread 114 = .ok (.iinc 9 1, 3) := by decide +kernel
theorem dL_spread_117 : decode cL_spread 117 = .ok (.goto (-95), 3) := by decide +kernel
theorem dL_spread_120 : decode cL_spread 120 = .ok (.iload 7, 2) := by decide +kernel
theorem dL_spread_122 : decode cL_spread 122 = .ok (.ifCond .ge 7, 3) := by decide +kernel
theorem dL_spread_125 : decode cL_spread 125 = .ok (.iconst 0, 1) := by decide +kernel
theorem dL_spread_126 : decode cL_spread 126 = .ok (.goto 14, 3) := by decide +kernel
theorem dL_spread_129 : decode cL_spread 129 = .ok (.iload 6, 2) := by decide +kernel
theorem dL_spread_131 : decode cL_spread 131 = .ok (.iload_n 1, 1) := by decide +kernel
theorem dL_spread_132 : decode cL_spread 132 = .ok (.iload 7, 2) := by decide +kernel
theorem dL_spread_134 : decode cL_spread 134 = .ok (.aload_n 2, 1) := by decide +kernel
theorem dL_spread_135 : decode cL_spread 135 = .ok (.aload 5, 2) := by decide +kernel
theorem dL_spread_137 : decode cL_spread 137 = .ok (.invokestatic 63, 3) := by decide +kernel
theorem dL_spread_140 : decode cL_spread 140 = .ok (.iload 8, 2) := by decide +kernel
theorem dL_spread_142 : decode cL_spread 142 = .ok (.ifCond .ge 7, 3) := by decide +kernel
theorem dL_spread_145 : decode cL_spread 145 = .ok (.iconst 0, 1) := by decide +kernel
theorem dL_spread_146 : decode cL_spread 146 = .ok (.goto 14, 3) := by decide +kernel
theorem dL_spread_149 : decode cL_spread 149 = .ok (.iload 6, 2) := by decide +kernel
theorem dL_spread_151 : decode cL_spread 151 = .ok (.iload_n 1, 1) := by decide +kernel
theorem dL_spread_152 : decode cL_spread 152 = .ok (.iload 8, 2) := by decide +kernel
theorem dL_spread_154 : decode cL_spread 154 = .ok (.aload_n 2, 1) := by decide +kernel
theorem dL_spread_155 : decode cL_spread 155 = .ok (.aload 5, 2) := by decide +kernel
theorem dL_spread_157 : decode cL_spread 157 = .ok (.invokestatic 63, 3) := by decide +kernel
theorem dL_spread_160 : decode cL_spread 160 = .ok (.iadd, 1) := by decide +kernel
theorem dL_spread_161 : decode cL_spread 161 = .ok (.ireturn, 1) := by decide +kernel
theorem dL_count_0 : decode cL_count 0 = .ok (.iconst 0, 1) := by decide +kernel
theorem dL_count_1 : decode cL_count 1 = .ok (.istore_n 1, 1) := by decide +kernel
theorem dL_count_2 : decode cL_count 2 = .ok (.iconst 0, 1) := by decide +kernel
theorem dL_count_3 : decode cL_count 3 = .ok (.istore_n 2, 1) := by decide +kernel
theorem dL_count_4 : decode cL_count 4 = .ok (.iload_n 2, 1) := by decide +kernel
theorem dL_count_5 : decode cL_count 5 = .ok (.bipush 10, 2) := by decide +kernel
theorem dL_count_7 : decode cL_count 7 = .ok (.if_icmp .ge 18, 3) := by decide +kernel
theorem dL_count_10 : decode cL_count 10 = .ok (.iload_n 1, 1) := by decide +kernel
theorem dL_count_11 : decode cL_count 11 = .ok (.aload_n 0, 1) := by decide +kernel
theorem dL_count_12 : decode cL_count 12 = .ok (.bipush 10, 2) := by decide +kernel
theorem dL_count_14 : decode cL_count 14 = .ok (.iload_n 2, 1) := by decide +kernel
