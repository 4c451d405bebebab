theorem dL_count_15 : decode cL_count 15 = .ok (.iadd, 1) := by decide +kernel
theorem dL_count_16 : decode cL_count 16 = .ok (.iaload, 1) := by decide +kernel
theorem dL_count_17 : decode cL_count 17 = .ok (.iadd, 1) := by decide +kernel
theorem dL_count_18 : decode cL_count 18 = .ok (.istore_n 1, 1) := by decide +kernel
theorem dL_count_19 : decode cL_count 19 = .ok (.iinc 2 1, 3) := by decide +kernel
theorem dL_count_22 : decode cL_count 22 = .ok (.goto (-18), 3) := by decide +kernel
theorem dL_count_25 : decode cL_count 25 = .ok (.iload_n 1, 1) := by decide +kernel
theorem dL_count_26 : decode cL_count 26 = .ok (.ireturn, 1) := by decide +kernel
theorem dL_begin_0 : decode cL_begin 0 = .ok (.aload 4, 2) := by decide +kernel
theorem dL_begin_2 : decode cL_begin 2 = .ok (.iload_n 0, 1) := by decide +kernel
theorem dL_begin_3 : decode cL_begin 3 = .ok (.iaload, 1) := by decide +kernel
theorem dL_begin_4 : decode cL_begin 4 = .ok (.istore 9, 2) := by decide +kernel
theorem dL_begin_6 : decode cL_begin 6 = .ok (.aload 5, 2) := by decide +kernel
theorem dL_begin_8 : decode cL_begin 8 = .ok (.bipush 10, 2) := by decide +kernel
theorem dL_begin_10 : decode cL_begin 10 = .ok (.iload 9, 2) := by decide +kernel
theorem dL_begin_12 : decode cL_begin 12 = .ok (.iadd, 1) := by decide +kernel
theorem dL_begin_13 : decode cL_begin 13 = .ok (.iconst 1, 1) := by decide +kernel
theorem dL_begin_14 : decode cL_begin 14 = .ok (.iastore, 1) := by decide +kernel
theorem dL_begin_15 : decode cL_begin 15 = .ok (.aload 6, 2) := by decide +kernel
theorem dL_begin_17 : decode cL_begin 17 = .ok (.iconst 4, 1) := by decide +kernel
theorem dL_begin_18 : decode cL_begin 18 = .ok (.iload 9, 2) := by decide +kernel
theorem dL_begin_20 : decode cL_begin 20 = .ok (.imul, 1) := by decide +kernel
theorem dL_begin_21 : decode cL_begin 21 = .ok (.iload_n 1, 1) := by decide +kernel
theorem dL_begin_22 : decode cL_begin 22 = .ok (.iastore, 1) := by decide +kernel
theorem dL_begin_23 : decode cL_begin 23 = .ok (.aload 6, 2) := by decide +kernel
theorem dL_begin_25 : decode cL_begin 25 = .ok (.iconst 4, 1) := by decide +kernel
theorem dL_begin_26 : decode cL_begin 26 = .ok (.iload 9, 2) := by decide +kernel
theorem dL_begin_28 : decode cL_begin 28 = .ok (.imul, 1) := by decide +kernel
theorem dL_begin_29 : decode cL_begin 29 = .ok (.iconst 1, 1) := by decide +kernel
theorem dL_begin_30 : decode cL_begin 30 = .ok (.iadd, 1) := by decide +kernel
theorem dL_begin_31 : decode cL_begin 31 = .ok (.iload_n 2, 1) := by decide +kernel
theorem dL_begin_32 : decode cL_begin 32 = .ok (.iastore, 1) := by decide +kernel
theorem dL_begin_33 : decode cL_begin 33 = .ok (.aload 6, 2) := by decide +kernel
theorem dL_begin_35 : decode cL_begin 35 = .ok (.iconst 4, 1) := by decide +kernel
theorem dL_begin_36 : decode cL_begin 36 = .ok (.iload 9, 2) := by decide +kernel
theorem dL_begin_38 : decode cL_begin 38 = .ok (.imul, 1) := by decide +kernel
theorem dL_begin_39 : decode cL_begin 39 = .ok (.iconst 2, 1) := by decide +kernel
theorem dL_begin_40 : decode cL_begin 40 = .ok (.iadd, 1) := by decide +kernel
theorem dL_begin_41 : decode cL_begin 41 = .ok (.iload_n 3, 1) := by decide +kernel
theorem dL_begin_42 : decode cL_begin 42 = .ok (.iastore, 1) := by decide +kernel
theorem dL_begin_43 : decode cL_begin 43 = .ok (.aload 6, 2) := by decide +kernel
theorem dL_begin_45 : decode cL_begin 45 = .ok (.iconst 4, 1) := by decide +kernel
theorem dL_begin_46 : decode cL_begin 46 = .ok (.iload 9, 2) := by decide +kernel
theorem dL_begin_48 : decode cL_begin 48 = .ok (.imul, 1) := by decide +kernel
theorem dL_begin_49 : decode cL_begin 49 = .ok (.iconst 3, 1) := by decide +kernel
theorem dL_begin_50 : decode cL_begin 50 = .ok (.iadd, 1) := by decide +kernel
theorem dL_begin_51 : decode cL_begin 51 = .ok (.iconst (-1), 1) := by decide +kernel
theorem dL_begin_52 : decode cL_begin 52 = .ok (.iastore, 1) := by decide +kernel
theorem dL_begin_53 : decode cL_begin 53 = .ok (.iconst 0, 1) := by decide +kernel
theorem dL_begin_54 : decode cL_begin 54 = .ok (.istore 10, 2) := by decide +kernel
theorem dL_begin_56 : decode cL_begin 56 = .ok (.iload 10, 2) := by decide +kernel
theorem dL_begin_58 : decode cL_begin 58 = .ok (.bipush 6, 2) := by decide +kernel
theorem dL_begin_60 : decode cL_begin 60 = .ok (.if_icmp .ge 33, 3) := by decide +kernel
theorem dL_begin_63 : decode cL_begin 63 = .ok (.aload 7, 2) := by decide +kernel
theorem dL_begin_65 : decode cL_begin 65 = .ok (.bipush 6, 2) := by decide +kernel
theorem dL_begin_67 : decode cL_begin 67 = .ok (.iload 9, 2) := by decide +kernel
theorem dL_begin_69 : decode cL_begin 69 = .ok (.imul, 1) := by decide +kernel
theorem dL_begin_70 : decode cL_begin 70 = .ok (.iload 10, 2) := by decide +kernel
theorem dL_begin_72 : decode cL_begin 72 = .ok (.iadd, 1) := by decide +kernel
theorem dL_begin_73 : decode cL_begin 73 = .ok (.iconst (-1), 1) := by decide +kernel
theorem dL_begin_74 : decode cL_begin 74 = .ok (.iastore, 1) := by decide +kernel
theorem dL_begin_75 : decode cL_begin 75 = .ok (.aload 8, 2) := by decide +kernel
theorem dL_begin_77 : decode cL_begin 77 = .ok (.bipush 6, 2) := by decide +kernel
theorem dL_begin_79 : decode cL_begin 79 = .ok (.iload 9, 2) := by decide +kernel
theorem dL_begin_81 : decode cL_begin 81 = .ok (.imul, 1) := by decide +kernel
theorem dL_begin_82 : decode cL_begin 82 = .ok (.iload 10, 2) := by decide +kernel
theorem dL_begin_84 : decode cL_begin 84 = .ok (.iadd, 1) := by decide +kernel
theorem dL_begin_85 : decode cL_begin 85 = .ok (.iconst (-1), 1) := by decide +kernel
theorem dL_begin_86 : decode cL_begin 86 = .ok (.iastore, 1) := by decide +kernel
theorem dL_begin_87 : decode cL_begin 87 = .ok (.iinc 10 1, 3) := by decide +kernel
theorem dL_begin_90 : decode cL_begin 90 = .ok (.goto (-34), 3) := by decide +kernel
theorem dL_begin_93 : decode cL_begin 93 = .ok (.return_, 1) := by decide +kernel
theorem dL_leaves_0 : decode cL_leaves 0 = .ok (.iload_n 0, 1) := by decide +kernel
theorem dL_leaves_1 : decode cL_leaves 1 = .ok (.aload_n 1, 1) := by decide +kernel
theorem dL_leaves_2 : decode cL_leaves 2 = .ok (.aload_n 2, 1) := by decide +kernel
theorem dL_leaves_3 : decode cL_leaves 3 = .ok (.aload_n 3, 1) := by decide +kernel
theorem dL_leaves_4 : decode cL_leaves 4 = .ok (.invokestatic 51, 3) := by decide +kernel
theorem dL_leaves_7 : decode cL_leaves 7 = .ok (.istore 5, 2) := by decide +kernel
theorem dL_leaves_9 : decode cL_leaves 9 = .ok (.aload_n 3, 1) := by decide +kernel
theorem dL_leaves_10 : decode cL_leaves 10 = .ok (.iconst 4, 1) := by decide +kernel
theorem dL_leaves_11 : decode cL_leaves 11 = .ok (.aload_n 1, 1) := by decide +kernel
theorem dL_leaves_12 : decode cL_leaves 12 = .ok (.iload_n 0, 1) := by decide +kernel
theorem dL_leaves_13 : decode cL_leaves 13 = .ok (.iaload, 1) := by decide +kernel
theorem dL_leaves_14 : decode cL_leaves 14 = .ok (.imul, 1) := by decide +kernel
theorem dL_leaves_15 : decode cL_leaves 15 = .ok (.iconst 3, 1) := by decide +kernel
theorem dL_leaves_16 : decode cL_leaves 16 = .ok (.iadd, 1) := by decide +kernel
theorem dL_leaves_17 : decode cL_leaves 17 = .ok (.iaload, 1) := by decide +kernel
theorem dL_leaves_18 : decode cL_leaves 18 = .ok (.istore 6, 2) := by decide +kernel
theorem dL_leaves_20 : decode cL_leaves 20 = .ok (.iload 5, 2) := by decide +kernel
theorem dL_leaves_22 : decode cL_leaves 22 = .ok (.iload_n 0, 1) := by decide +kernel
theorem dL_leaves_23 : decode cL_leaves 23 = .ok (.if_icmp .eq 80, 3) := by decide +kernel
theorem dL_leaves_26 : decode cL_leaves 26 = .ok (.iconst 0, 1) := by decide +kernel
theorem dL_leaves_27 : decode cL_leaves 27 = .ok (.istore 7, 2) := by decide +kernel
theorem dL_leaves_29 : decode cL_leaves 29 = .ok (.iload 7, 2) := by decide +kernel
theorem dL_leaves_31 : decode cL_leaves 31 = .ok (.bipush 6, 2) := by decide +kernel
theorem dL_leaves_33 : decode cL_leaves 33 = .ok (.if_icmp .ge 33, 3) := by decide +kernel
theorem dL_leaves_36 : decode cL_leaves 36 = .ok (.aload 4, 2) := by decide +kernel
theorem dL_leaves_38 : decode cL_leaves 38 = .ok (.bipush 6, 2) := by decide +kernel
theorem dL_leaves_40 : decode cL_leaves 40 = .ok (.aload_n 1, 1) := by decide +kernel
theorem dL_leaves_41 : decode cL_leaves 41 = .ok (.iload_n 0, 1) := by decide +kernel
theorem dL_leaves_42 : decode cL_leaves 42 = .ok (.iaload, 1) := by decide +kernel
theorem dL_leaves_43 : decode cL_leaves 43 = .ok (.imul, 1) := by decide +kernel
theorem dL_leaves_44 : decode cL_leaves 44 = .ok (.iload 7, 2) := by decide +kernel
theorem dL_leaves_46 : decode cL_leaves 46 = .ok (.iadd, 1) := by decide +kernel
theorem dL_leaves_47 : decode cL_leaves 47 = .ok (.iaload, 1) := by decide +kernel
theorem dL_leaves_48 : decode cL_leaves 48 = .ok (.iload 7, 2) := by decide +kernel
theorem dL_leaves_50 : decode cL_leaves 50 = .ok (.iload 5, 2) := by decide +kernel
theorem dL_leaves_52 : decode cL_leaves 52 = .ok (.aload_n 1, 1) := by decide +kernel
theorem dL_leaves_53 : decode cL_leaves 53 = .ok (.aload 4, 2) := by decide +kernel
theorem dL_leaves_55 : decode cL_leaves 55 = .ok (.invokestatic 63, 3) := by decide +kernel
theorem dL_leaves_58 : decode cL_leaves 58 = .ok (.istore 8, 2) := by decide +kernel
theorem dL_leaves_60 : decode cL_leaves 60 = .ok (.iinc 7 1, 3) := by decide +kernel
theorem dL_leaves_63 : decode cL_leaves 63 = .ok (.goto (-34), 3) := by decide +kernel
theorem dL_leaves_66 : decode cL_leaves 66 = .ok (.aload_n 3, 1) := by decide +kernel
theorem dL_leaves_67 : decode cL_leaves 67 = .ok (.iconst 4, 1) := by decide +kernel
theorem dL_leaves_68 : decode cL_leaves 68 = .ok (.aload_n 1, 1) := by decide +kernel
theorem dL_leaves_69 : decode cL_leaves 69 = .ok (.iload 5, 2) := by decide +kernel
theorem dL_leaves_71 : decode cL_leaves 71 = .ok (.iaload, 1) := by decide +kernel
theorem dL_leaves_72 : decode cL_leaves 72 = .ok (.imul, 1) := by decide +kernel
theorem dL_leaves_73 : decode cL_leaves 73 = .ok (.iconst 3, 1) := by decide +kernel
theorem dL_leaves_74 : decode cL_leaves 74 = .ok (.iadd, 1) := by decide +kernel
theorem dL_leaves_75 : decode cL_leaves 75 = .ok (.iload 6, 2) := by decide +kernel
theorem dL_leaves_77 : decode cL_leaves 77 = .ok (.iastore, 1) := by decide +kernel
theorem dL_leaves_78 : decode cL_leaves 78 = .ok (.iload 6, 2) := by decide +kernel
theorem dL_leaves_80 : decode cL_leaves 80 = .ok (.iload_n 0, 1) := by decide +kernel
theorem dL_leaves_81 : decode cL_leaves 81 = .ok (.if_icmp .eq 22, 3) := by decide +kernel
theorem dL_leaves_84 : decode cL_leaves 84 = .ok (.iload 6, 2) := by decide +kernel
theorem dL_leaves_86 : decode cL_leaves 86 = .ok (.aload_n 1, 1) := by decide +kernel
theorem dL_leaves_87 : decode cL_leaves 87 = .ok (.aload_n 2, 1) := by decide +kernel
theorem dL_leaves_88 : decode cL_leaves 88 = .ok (.invokestatic 45, 3) := by decide +kernel
theorem dL_leaves_91 : decode cL_leaves 91 = .ok (.ifCond .eq 12, 3) := by decide +kernel
theorem dL_leaves_94 : decode cL_leaves 94 = .ok (.iload 6, 2) := by decide +kernel
theorem dL_leaves_96 : decode cL_leaves 96 = .ok (.iload 5, 2) := by decide +kernel
theorem dL_leaves_98 : decode cL_leaves 98 = .ok (.aload_n 1, 1) := by decide +kernel
theorem dL_leaves_99 : decode cL_leaves 99 = .ok (.aload_n 3, 1) := by decide +kernel
theorem dL_leaves_100 : decode cL_leaves 100 = .ok (.invokestatic 67, 3) := by decide +kernel
theorem dL_leaves_103 : decode cL_leaves 103 = .ok (.aload_n 2, 1) := by decide +kernel
theorem dL_leaves_104 : decode cL_leaves 104 = .ok (.bipush 10, 2) := by decide +kernel
theorem dL_leaves_106 : decode cL_leaves 106 = .ok (.aload_n 1, 1) := by decide +kernel
theorem dL_leaves_107 : decode cL_leaves 107 = .ok (.iload_n 0, 1) := by decide +kernel
theorem dL_leaves_108 : decode cL_leaves 108 = .ok (.iaload, 1) := by decide +kernel
theorem dL_leaves_109 : decode cL_leaves 109 = .ok (.iadd, 1) := by decide +kernel
theorem dL_leaves_110 : decode cL_leaves 110 = .ok (.iconst 0, 1) := by decide +kernel
theorem dL_leaves_111 : decode cL_leaves 111 = .ok (.iastore, 1) := by decide +kernel
theorem dL_leaves_112 : decode cL_leaves 112 = .ok (.aload_n 2, 1) := by decide +kernel
theorem dL_leaves_113 : decode cL_leaves 113 = .ok (.invokestatic 71, 3) := by decide +kernel
theorem dL_leaves_116 : decode cL_leaves 116 = .ok (.ireturn, 1) := by decide +kernel
theorem dL_step_0 : decode cL_step 0 = .ok (.aload_n 2, 1) := by decide +kernel
theorem dL_step_1 : decode cL_step 1 = .ok (.iload_n 1, 1) := by decide +kernel
theorem dL_step_2 : decode cL_step 2 = .ok (.iaload, 1) := by decide +kernel
theorem dL_step_3 : decode cL_step 3 = .ok (.istore 7, 2) := by decide +kernel
theorem dL_step_5 : decode cL_step 5 = .ok (.iconst 0, 1) := by decide +kernel
theorem dL_step_6 : decode cL_step 6 = .ok (.istore 8, 2) := by decide +kernel
theorem dL_step_8 : decode cL_step 8 = .ok (.iload_n 0, 1) := by decide +kernel
theorem dL_step_9 : decode cL_step 9 = .ok (.iconst 4, 1) := by decide +kernel
theorem dL_step_10 : decode cL_step 10 = .ok (.if_icmp .ne 60, 3) := by decide +kernel
theorem dL_step_13 : decode cL_step 13 = .ok (.aload 4, 2) := by decide +kernel
theorem dL_step_15 : decode cL_step 15 = .ok (.iconst 4, 1) := by decide +kernel
theorem dL_step_16 : decode cL_step 16 = .ok (.iload 7, 2) := by decide +kernel
theorem dL_step_18 : decode cL_step 18 = .ok (.imul, 1) := by decide +kernel
theorem dL_step_19 : decode cL_step 19 = .ok (.iconst 3, 1) := by decide +kernel
theorem dL_step_20 : decode cL_step 20 = .ok (.iadd, 1) := by decide +kernel
theorem dL_step_21 : decode cL_step 21 = .ok (.aload 4, 2) := by decide +kernel
theorem dL_step_23 : decode cL_step 23 = .ok (.iconst 4, 1) := by decide +kernel
theorem dL_step_24 : decode cL_step 24 = .ok (.iload 7, 2) := by decide +kernel
theorem dL_step_26 : decode cL_step 26 = .ok (.imul, 1) := by decide +kernel
theorem dL_step_27 : decode cL_step 27 = .ok (.iconst 3, 1) := by decide +kernel
theorem dL_step_28 : decode cL_step 28 = .ok (.iadd, 1) := by decide +kernel
theorem dL_step_29 : decode cL_step 29 = .ok (.iaload, 1) := by decide +kernel
theorem dL_step_30 : decode cL_step 30 = .ok (.aload_n 2, 1) := by decide +kernel
theorem dL_step_31 : decode cL_step 31 = .ok (.aload_n 3, 1) := by decide +kernel
theorem dL_step_32 : decode cL_step 32 = .ok (.invokestatic 45, 3) := by decide +kernel
theorem dL_step_35 : decode cL_step 35 = .ok (.ifCond .eq 15, 3) := by decide +kernel
theorem dL_step_38 : decode cL_step 38 = .ok (.aload 4, 2) := by decide +kernel
theorem dL_step_40 : decode cL_step 40 = .ok (.iconst 4, 1) := by decide +kernel
theorem dL_step_41 : decode cL_step 41 = .ok (.iload 7, 2) := by decide +kernel
theorem dL_step_43 : decode cL_step 43 = .ok (.imul, 1) := by decide +kernel
theorem dL_step_44 : decode cL_step 44 = .ok (.iconst 3, 1) := by decide +kernel
theorem dL_step_45 : decode cL_step 45 = .ok (.iadd, 1) := by decide +kernel
theorem dL_step_46 : decode cL_step 46 = .ok (.iaload, 1) := by decide +kernel
theorem dL_step_47 : decode cL_step 47 = .ok (.goto 4, 3) := by decide +kernel
theorem dL_step_50 : decode cL_step 50 = .ok (.iconst (-1), 1) := by decide +kernel
theorem dL_step_51 : decode cL_step 51 = .ok (.iastore, 1) := by decide +kernel
theorem dL_step_52 : decode cL_step 52 = .ok (.aload 4, 2) := by decide +kernel
theorem dL_step_54 : decode cL_step 54 = .ok (.iconst 4, 1) := by decide +kernel
theorem dL_step_55 : decode cL_step 55 = .ok (.iload 7, 2) := by decide +kernel
theorem dL_step_57 : decode cL_step 57 = .ok (.imul, 1) := by decide +kernel
theorem dL_step_58 : decode cL_step 58 = .ok (.iconst 3, 1) := by decide +kernel
theorem dL_step_59 : decode cL_step 59 = .ok (.iadd, 1) := by decide +kernel
theorem dL_step_60 : decode cL_step 60 = .ok (.iaload, 1) := by decide +kernel
theorem dL_step_61 : decode cL_step 61 = .ok (.ifCond .ge 7, 3) := by decide +kernel
theorem dL_step_64 : decode cL_step 64 = .ok (.iconst 0, 1) := by decide +kernel
theorem dL_step_65 : decode cL_step 65 = .ok (.goto 4, 3) := by decide +kernel
theorem dL_step_68 : decode cL_step 68 = .ok (.iconst 1, 1) := by decide +kernel
theorem dL_step_69 : decode cL_step 69 = .ok (.ireturn, 1) := by decide +kernel
theorem dL_step_70 : decode cL_step 70 = .ok (.iload_n 0, 1) := by decide +kernel
theorem dL_step_71 : decode cL_step 71 = .ok (.iconst 5, 1) := by decide +kernel
theorem dL_step_72 : decode cL_step 72 = .ok (.if_icmp .ne 132, 3) := by decide +kernel
theorem dL_step_75 : decode cL_step 75 = .ok (.iload_n 1, 1) := by decide +kernel
theorem dL_step_76 : decode cL_step 76 = .ok (.aload_n 2, 1) := by decide +kernel
theorem dL_step_77 : decode cL_step 77 = .ok (.aload_n 3, 1) := by decide +kernel
theorem dL_step_78 : decode cL_step 78 = .ok (.aload 4, 2) := by decide +kernel
theorem dL_step_80 : decode cL_step 80 = .ok (.invokestatic 51, 3) := by decide +kernel
theorem dL_step_83 : decode cL_step 83 = .ok (.istore 9, 2) := by decide +kernel
theorem dL_step_85 : decode cL_step 85 = .ok (.aload 4, 2) := by decide +kernel
theorem dL_step_87 : decode cL_step 87 = .ok (.iconst 4, 1) := by decide +kernel
theorem dL_step_88 : decode cL_step 88 = .ok (.aload_n 2, 1) := by decide +kernel
theorem dL_step_89 : decode cL_step 89 = .ok (.iload 9, 2) := by decide +kernel
theorem dL_step_91 : decode cL_step 91 = .ok (.iaload, 1) := by decide +kernel
theorem dL_step_92 : decode cL_step 92 = .ok (.imul, 1) := by decide +kernel
theorem dL_step_93 : decode cL_step 93 = .ok (.iconst 3, 1) := by decide +kernel
theorem dL_step_94 : decode cL_step 94 = .ok (.iadd, 1) := by decide +kernel
theorem dL_step_95 : decode cL_step 95 = .ok (.iaload, 1) := by decide +kernel
theorem dL_step_96 : decode cL_step 96 = .ok (.istore 10, 2) := by decide +kernel
theorem dL_step_98 : decode cL_step 98 = .ok (.iload 10, 2) := by decide +kernel
theorem dL_step_100 : decode cL_step 100 = .ok (.aload_n 2, 1) := by decide +kernel
theorem dL_step_101 : decode cL_step 101 = .ok (.aload_n 3, 1) := by decide +kernel
theorem dL_step_102 : decode cL_step 102 = .ok (.invokestatic 45, 3) := by decide +kernel
theorem dL_step_105 : decode cL_step 105 = .ok (.ifCond .eq 26, 3) := by decide +kernel
theorem dL_step_108 : decode cL_step 108 = .ok (.iload 10, 2) := by decide +kernel
theorem dL_step_110 : decode cL_step 110 = .ok (.iload 9, 2) := by decide +kernel
theorem dL_step_112 : decode cL_step 112 = .ok (.if_icmp .eq 19, 3) := by decide +kernel
theorem dL_step_115 : decode cL_step 115 = .ok (.iload 10, 2) := by decide +kernel
theorem dL_step_117 : decode cL_step 117 = .ok (.iload_n 1, 1) := by decide +kernel
theorem dL_step_118 : decode cL_step 118 = .ok (.iload 9, 2) := by decide +kernel
theorem dL_step_120 : decode cL_step 120 = .ok (.invokestatic 55, 3) := by decide +kernel
theorem dL_step_123 : decode cL_step 123 = .ok (.ifCond .eq 8, 3) := by decide +kernel
theorem dL_step_126 : decode cL_step 126 = .ok (.iload 10, 2) := by decide +kernel
theorem dL_step_128 : decode cL_step 128 = .ok (.goto 5, 3) := by decide +kernel
theorem dL_step_131 : decode cL_step 131 = .ok (.iload 9, 2) := by decide +kernel
theorem dL_step_133 : decode cL_step 133 = .ok (.istore 9, 2) := by decide +kernel
theorem dL_step_135 : decode cL_step 135 = .ok (.iload_n 1, 1) := by decide +kernel
theorem dL_step_136 : decode cL_step 136 = .ok (.iload 9, 2) := by decide +kernel
theorem dL_step_138 : decode cL_step 138 = .ok (.aload_n 2, 1) := by decide +kernel
theorem dL_step_139 : decode cL_step 139 = .ok (.aload 4, 2) := by decide +kernel
theorem dL_step_141 : decode cL_step 141 = .ok (.invokestatic 67, 3) := by decide +kernel
theorem dL_step_144 : decode cL_step 144 = .ok (.aload 4, 2) := by decide +kernel
theorem dL_step_146 : decode cL_step 146 = .ok (.iconst 4, 1) := by decide +kernel
theorem dL_step_147 : decode cL_step 147 = .ok (.aload_n 2, 1) := by decide +kernel
theorem dL_step_148 : decode cL_step 148 = .ok (.iload 9, 2) := by decide +kernel
theorem dL_step_150 : decode cL_step 150 = .ok (.iaload, 1) := by decide +kernel
theorem dL_step_151 : decode cL_step 151 = .ok (.imul, 1) := by decide +kernel
theorem dL_step_152 : decode cL_step 152 = .ok (.iconst 3, 1) := by decide +kernel
theorem dL_step_153 : decode cL_step 153 = .ok (.iadd, 1) := by decide +kernel
theorem dL_step_154 : decode cL_step 154 = .ok (.iaload, 1) := by decide +kernel
theorem dL_step_155 : decode cL_step 155 = .ok (.istore 11, 2) := by decide +kernel
theorem dL_step_157 : decode cL_step 157 = .ok (.aload 4, 2) := by decide +kernel
theorem dL_step_159 : decode cL_step 159 = .ok (.iconst 4, 1) := by decide +kernel
theorem dL_step_160 : decode cL_step 160 = .ok (.aload_n 2, 1) := by decide +kernel
theorem dL_step_161 : decode cL_step 161 = .ok (.iload 9, 2) := by decide +kernel
theorem dL_step_163 : decode cL_step 163 = .ok (.iaload, 1) := by decide +kernel
theorem dL_step_164 : decode cL_step 164 = .ok (.imul, 1) := by decide +kernel
theorem dL_step_165 : decode cL_step 165 = .ok (.iconst 3, 1) := by decide +kernel
theorem dL_step_166 : decode cL_step 166 = .ok (.iadd, 1) := by decide +kernel
theorem dL_step_167 : decode cL_step 167 = .ok (.iload 11, 2) := by decide +kernel
theorem dL_step_169 : decode cL_step 169 = .ok (.aload_n 2, 1) := by decide +kernel
theorem dL_step_170 : decode cL_step 170 = .ok (.aload_n 3, 1) := by decide +kernel
theorem dL_step_171 : decode cL_step 171 = .ok (.invokestatic 45, 3) := by decide +kernel
theorem dL_step_174 : decode cL_step 174 = .ok (.ifCond .eq 20, 3) := by decide +kernel
theorem dL_step_177 : decode cL_step 177 = .ok (.iload_n 1, 1) := by decide +kernel
theorem dL_step_178 : decode cL_step 178 = .ok (.iload 9, 2) := by decide +kernel
theorem dL_step_180 : decode cL_step 180 = .ok (.if_icmp .eq 18, 3) := by decide +kernel
theorem dL_step_183 : decode cL_step 183 = .ok (.iload_n 1, 1) := by decide +kernel
theorem dL_step_184 : decode cL_step 184 = .ok (.iload 11, 2) := by decide +kernel
theorem dL_step_186 : decode cL_step 186 = .ok (.iload 9, 2) := by decide +kernel
theorem dL_step_188 : decode cL_step 188 = .ok (.invokestatic 55, 3) := by decide +kernel
theorem dL_step_191 : decode cL_step 191 = .ok (.ifCond .eq 7, 3) := by decide +kernel
theorem dL_step_194 : decode cL_step 194 = .ok (.iload_n 1, 1) := by decide +kernel
theorem dL_step_195 : decode cL_step 195 = .ok (.goto 5, 3) := by decide +kernel
theorem dL_step_198 : decode cL_step 198 = .ok (.iload 11, 2) := by decide +kernel
theorem dL_step_200 : decode cL_step 200 = .ok (.iastore, 1) := by decide +kernel
theorem dL_step_201 : decode cL_step 201 = .ok (.iload 9, 2) := by decide +kernel
theorem dL_step_203 : decode cL_step 203 = .ok (.ireturn, 1) := by decide +kernel
theorem dL_step_204 : decode cL_step 204 = .ok (.iconst 0, 1) := by decide +kernel
theorem dL_step_205 : decode cL_step 205 = .ok (.istore 9, 2) := by decide +kernel
theorem dL_step_207 : decode cL_step 207 = .ok (.iload 9, 2) := by decide +kernel
theorem dL_step_209 : decode cL_step 209 = .ok (.bipush 6, 2) := by decide +kernel
theorem dL_step_211 : decode cL_step 211 = .ok (.if_icmp .ge 75, 3) := by decide +kernel
theorem dL_step_214 : decode cL_step 214 = .ok (.iload_n 0, 1) := by decide +kernel
theorem dL_step_215 : decode cL_step 215 = .ok (.bipush 6, 2) := by decide +kernel
theorem dL_step_217 : decode cL_step 217 = .ok (.if_icmp .ne 69, 3) := by decide +kernel
theorem dL_step_220 : decode cL_step 220 = .ok (.iload_n 1, 1) := by decide +kernel
theorem dL_step_221 : decode cL_step 221 = .ok (.iload_n 1, 1) := by decide +kernel
theorem dL_step_222 : decode cL_step 222 = .ok (.iconst 1, 1) := by decide +kernel
theorem dL_step_223 : decode cL_step 223 = .ok (.iload 9, 2) := by decide +kernel
theorem dL_step_225 : decode cL_step 225 = .ok (.ishl, 1) := by decide +kernel
theorem dL_step_226 : decode cL_step 226 = .ok (.iadd, 1) := by decide +kernel
theorem dL_step_227 : decode cL_step 227 = .ok (.bipush 64, 2) := by decide +kernel
theorem dL_step_229 : decode cL_step 229 = .ok (.irem, 1) := by decide +kernel
theorem dL_step_230 : decode cL_step 230 = .ok (.aload_n 2, 1) := by decide +kernel
theorem dL_step_231 : decode cL_step 231 = .ok (.aload_n 3, 1) := by decide +kernel
theorem dL_step_232 : decode cL_step 232 = .ok (.aload 4, 2) := by decide +kernel
theorem dL_step_234 : decode cL_step 234 = .ok (.aload 5, 2) := by decide +kernel
theorem dL_step_236 : decode cL_step 236 = .ok (.invokestatic 75, 3) := by decide +kernel
theorem dL_step_239 : decode cL_step 239 = .ok (.istore 10, 2) := by decide +kernel
theorem dL_step_241 : decode cL_step 241 = .ok (.iload 8, 2) := by decide +kernel
theorem dL_step_243 : decode cL_step 243 = .ok (.iload 10, 2) := by decide +kernel
theorem dL_step_245 : decode cL_step 245 = .ok (.aload 5, 2) := by decide +kernel
theorem dL_step_247 : decode cL_step 247 = .ok (.bipush 6, 2) := by decide +kernel
theorem dL_step_249 : decode cL_step 249 = .ok (.iload 7, 2) := by decide +kernel
theorem dL_step_251 : decode cL_step 251 = .ok (.imul, 1) := by decide +kernel
theorem dL_step_252 : decode cL_step 252 = .ok (.iload 9, 2) := by decide +kernel
theorem dL_step_254 : decode cL_step 254 = .ok (.iadd, 1) := by decide +kernel
theorem dL_step_255 : decode cL_step 255 = .ok (.iaload, 1) := by decide +kernel
theorem dL_step_256 : decode cL_step 256 = .ok (.if_icmp .ne 7, 3) := by decide +kernel
theorem dL_step_259 : decode cL_step 259 = .ok (.iconst 0, 1) := by decide +kernel
theorem dL_step_260 : decode cL_step 260 = .ok (.goto 4, 3) := by decide +kernel
theorem dL_step_263 : decode cL_step 263 = .ok (.iconst 1, 1) := by decide +kernel
theorem dL_step_264 : decode cL_step 264 = .ok (.iadd, 1) := by decide +kernel
theorem dL_step_265 : decode cL_step 265 = .ok (.istore 8, 2) := by decide +kernel
theorem dL_step_267 : decode cL_step 267 = .ok (.aload 5, 2) := by decide +kernel
theorem dL_step_269 : decode cL_step 269 = .ok (.bipush 6, 2) := by decide +kernel
theorem dL_step_271 : decode cL_step 271 = .ok (.iload 7, 2) := by decide +kernel
theorem dL_step_273 : decode cL_step 273 = .ok (.imul, 1) := by decide +kernel
theorem dL_step_274 : decode cL_step 274 = .ok (.iload 9, 2) := by decide +kernel
theorem dL_step_276 : decode cL_step 276 = .ok (.iadd, 1) := by decide +kernel
theorem dL_step_277 : decode cL_step 277 = .ok (.iload 10, 2) := by decide +kernel
theorem dL_step_279 : decode cL_step 279 = .ok (.iastore, 1) := by decide +kernel
theorem dL_step_280 : decode cL_step 280 = .ok (.iinc 9 1, 3) := by decide +kernel
theorem dL_step_283 : decode cL_step 283 = .ok (.goto (-76), 3) := by decide +kernel
theorem dL_step_286 : decode cL_step 286 = .ok (.iconst 0, 1) := by decide +kernel
theorem dL_step_287 : decode cL_step 287 = .ok (.istore 9, 2) := by decide +kernel
theorem dL_step_289 : decode cL_step 289 = .ok (.iload 9, 2) := by decide +kernel
theorem dL_step_291 : decode cL_step 291 = .ok (.bipush 6, 2) := by decide +kernel
theorem dL_step_293 : decode cL_step 293 = .ok (.if_icmp .ge 149, 3) := by decide +kernel
theorem dL_step_296 : decode cL_step 296 = .ok (.iload_n 0, 1) := by decide +kernel
theorem dL_step_297 : decode cL_step 297 = .ok (.bipush 7, 2) := by decide +kernel
theorem dL_step_299 : decode cL_step 299 = .ok (.if_icmp .ne 143, 3) := by decide +kernel
theorem dL_step_302 : decode cL_step 302 = .ok (.aload 4, 2) := by decide +kernel
theorem dL_step_304 : decode cL_step 304 = .ok (.iconst 4, 1) := by decide +kernel
theorem dL_step_305 : decode cL_step 305 = .ok (.iload 7, 2) := by decide +kernel
theorem dL_step_307 : decode cL_step 307 = .ok (.imul, 1) := by decide +kernel
theorem dL_step_308 : decode cL_step 308 = .ok (.iconst 3, 1) := by decide +kernel
theorem dL_step_309 : decode cL_step 309 = .ok (.iadd, 1) := by decide +kernel
theorem dL_step_310 : decode cL_step 310 = .ok (.iaload, 1) := by decide +kernel
theorem dL_step_311 : decode cL_step 311 = .ok (.istore 10, 2) := by decide +kernel
theorem dL_step_313 : decode cL_step 313 = .ok (.aload 6, 2) := by decide +kernel
theorem dL_step_315 : decode cL_step 315 = .ok (.bipush 6, 2) := by decide +kernel
theorem dL_step_317 : decode cL_step 317 = .ok (.iload 7, 2) := by decide +kernel
theorem dL_step_319 : decode cL_step 319 = .ok (.imul, 1) := by decide +kernel
theorem dL_step_320 : decode cL_step 320 = .ok (.iload 9, 2) := by decide +kernel
theorem dL_step_322 : decode cL_step 322 = .ok (.iadd, 1) := by decide +kernel
theorem dL_step_323 : decode cL_step 323 = .ok (.iaload, 1) := by decide +kernel
theorem dL_step_324 : decode cL_step 324 = .ok (.ifCond .lt 44, 3) := by decide +kernel
theorem dL_step_327 : decode cL_step 327 = .ok (.iload 10, 2) := by decide +kernel
theorem dL_step_329 : decode cL_step 329 = .ok (.ifCond .lt 19, 3) := by decide +kernel
theorem dL_step_332 : decode cL_step 332 = .ok (.aload_n 3, 1) := by decide +kernel
theorem dL_step_333 : decode cL_step 333 = .ok (.bipush 20, 2) := by decide +kernel
theorem dL_step_335 : decode cL_step 335 = .ok (.iload 9, 2) := by decide +kernel
theorem dL_step_337 : decode cL_step 337 = .ok (.iadd, 1) := by decide +kernel
theorem dL_step_338 : decode cL_step 338 = .ok (.iaload, 1) := by decide +kernel
theorem dL_step_339 : decode cL_step 339 = .ok (.iload 10, 2) := by decide +kernel
theorem dL_step_341 : decode cL_step 341 = .ok (.iload_n 1, 1) := by decide +kernel
theorem dL_step_342 : decode cL_step 342 = .ok (.invokestatic 55, 3) := by decide +kernel
theorem dL_step_345 : decode cL_step 345 = .ok (.ifCond .eq 23, 3) := by decide +kernel
theorem dL_step_348 : decode cL_step 348 = .ok (.iload 8, 2) := by decide +kernel
theorem dL_step_350 : decode cL_step 350 = .ok (.iload_n 1, 1) := by decide +kernel
theorem dL_step_351 : decode cL_step 351 = .ok (.iload 9, 2) := by decide +kernel
theorem dL_step_353 : decode cL_step 353 = .ok (.aload_n 2, 1) := by decide +kernel
theorem dL_step_354 : decode cL_step 354 = .ok (.aload_n 3, 1) := by decide +kernel
theorem dL_step_355 : decode cL_step 355 = .ok (.aload 4, 2) := by decide +kernel
theorem dL_step_357 : decode cL_step 357 = .ok (.aload 6, 2) := by decide +kernel
theorem dL_step_359 : decode cL_step 359 = .ok (.invokestatic 78, 3) := by decide +kernel
theorem dL_step_362 : decode cL_step 362 = .ok (.iadd, 1) := by decide +kernel
theorem dL_step_363 : decode cL_step 363 = .ok (.istore 8, 2) := by decide +kernel
theorem dL_step_365 : decode cL_step 365 = .ok (.goto 71, 3) := by decide +kernel
theorem dL_step_368 : decode cL_step 368 = .ok (.aload 6, 2) := by decide +kernel
theorem dL_step_370 : decode cL_step 370 = .ok (.bipush 6, 2) := by decide +kernel
theorem dL_step_372 : decode cL_step 372 = .ok (.iload 7, 2) := by decide +kernel
theorem dL_step_374 : decode cL_step 374 = .ok (.imul, 1) := by decide +kernel
theorem dL_step_375 : decode cL_step 375 = .ok (.iload 9, 2) := by decide +kernel
theorem dL_step_377 : decode cL_step 377 = .ok (.iadd, 1) := by decide +kernel
theorem dL_step_378 : decode cL_step 378 = .ok (.iaload, 1) := by decide +kernel
theorem dL_step_379 : decode cL_step 379 = .ok (.ifCond .lt 57, 3) := by decide +kernel
theorem dL_step_382 : decode cL_step 382 = .ok (.iload_n 1, 1) := by decide +kernel
theorem dL_step_383 : decode cL_step 383 = .ok (.aload_n 3, 1) := by decide +kernel
theorem dL_step_384 : decode cL_step 384 = .ok (.bipush 20, 2) := by decide +kernel
theorem dL_step_386 : decode cL_step 386 = .ok (.iload 9, 2) := by decide +kernel
theorem dL_step_388 : decode cL_step 388 = .ok (.iadd, 1) := by decide +kernel
theorem dL_step_389 : decode cL_step 389 = .ok (.iaload, 1) := by decide +kernel
theorem dL_step_390 : decode cL_step 390 = .ok (.aload_n 2, 1) := by decide +kernel
theorem dL_step_391 : decode cL_step 391 = .ok (.aload_n 3, 1) := by decide +kernel
theorem dL_step_392 : decode cL_step 392 = .ok (.aload 4, 2) := by decide +kernel
theorem dL_step_394 : decode cL_step 394 = .ok (.aload 5, 2) := by decide +kernel
theorem dL_step_396 : decode cL_step 396 = .ok (.invokestatic 75, 3) := by decide +kernel
theorem dL_step_399 : decode cL_step 399 = .ok (.istore 11, 2) := by decide +kernel
theorem dL_step_401 : decode cL_step 401 = .ok (.iload 8, 2) := by decide +kernel
theorem dL_step_403 : decode cL_step 403 = .ok (.iload 11, 2) := by decide +kernel
theorem dL_step_405 : decode cL_step 405 = .ok (.ifCond .ge 7, 3) := by decide +kernel
theorem dL_step_408 : decode cL_step 408 = .ok (.iconst 0, 1) := by decide +kernel
theorem dL_step_409 : decode cL_step 409 = .ok (.goto 24, 3) := by decide +kernel
theorem dL_step_412 : decode cL_step 412 = .ok (.aload 6, 2) := by decide +kernel
theorem dL_step_414 : decode cL_step 414 = .ok (.bipush 6, 2) := by decide +kernel
theorem dL_step_416 : decode cL_step 416 = .ok (.iload 7, 2) := by decide +kernel
theorem dL_step_418 : decode cL_step 418 = .ok (.imul, 1) := by decide +kernel
theorem dL_step_419 : decode cL_step 419 = .ok (.iload 9, 2) := by decide +kernel
theorem dL_step_421 : decode cL_step 421 = .ok (.iadd, 1) := by decide +kernel
theorem dL_step_422 : decode cL_step 422 = .ok (.iaload, 1) := by decide +kernel
theorem dL_step_423 : decode cL_step 423 = .ok (.iload 9, 2) := by decide +kernel
theorem dL_step_425 : decode cL_step 425 = .ok (.iload 11, 2) := by decide +kernel
theorem dL_step_427 : decode cL_step 427 = .ok (.aload_n 2, 1) := by decide +kernel
theorem dL_step_428 : decode cL_step 428 = .ok (.aload 6, 2) := by decide +kernel
theorem dL_step_430 : decode cL_step 430 = .ok (.invokestatic 63, 3) := by decide +kernel
theorem dL_step_433 : decode cL_step 433 = .ok (.iadd, 1) := by decide +kernel
theorem dL_step_434 : decode cL_step 434 = .ok (.istore 8, 2) := by decide +kernel
theorem dL_step_436 : decode cL_step 436 = .ok (.iinc 9 1, 3) := by decide +kernel
theorem dL_step_439 : decode cL_step 439 = .ok (.goto (-150), 3) := by decide +kernel
theorem dL_step_442 : decode cL_step 442 = .ok (.iload 8, 2) := by decide +kernel
theorem dL_step_444 : decode cL_step 444 = .ok (.ireturn, 1) := by decide +kernel
theorem dL_owner_0 : decode cL_owner 0 = .ok (.iload_n 0, 1) := by decide +kernel
theorem dL_owner_1 : decode cL_owner 1 = .ok (.istore_n 3, 1) := by decide +kernel
theorem dL_owner_2 : decode cL_owner 2 = .ok (.iconst 0, 1) := by decide +kernel
theorem dL_owner_3 : decode cL_owner 3 = .ok (.istore 4, 2) := by decide +kernel
theorem dL_owner_5 : decode cL_owner 5 = .ok (.iload 4, 2) := by decide +kernel
theorem dL_owner_7 : decode cL_owner 7 = .ok (.bipush 64, 2) := by decide +kernel
theorem dL_owner_9 : decode cL_owner 9 = .ok (.if_icmp .ge 25, 3) := by decide +kernel
theorem dL_owner_12 : decode cL_owner 12 = .ok (.iload_n 3, 1) := by decide +kernel
theorem dL_owner_13 : decode cL_owner 13 = .ok (.aload_n 1, 1) := by decide +kernel
theorem dL_owner_14 : decode cL_owner 14 = .ok (.aload_n 2, 1) := by decide +kernel
theorem dL_owner_15 : decode cL_owner 15 = .ok (.invokestatic 45, 3) := by decide +kernel
theorem dL_owner_18 : decode cL_owner 18 = .ok (.ifCond .ne 16, 3) := by decide +kernel
theorem dL_owner_21 : decode cL_owner 21 = .ok (.iload_n 3, 1) := by decide +kernel
theorem dL_owner_22 : decode cL_owner 22 = .ok (.iconst 1, 1) := by decide +kernel
theorem dL_owner_23 : decode cL_owner 23 = .ok (.iadd, 1) := by decide +kernel
theorem dL_owner_24 : decode cL_owner 24 = .ok (.bipush 64, 2) := by decide +kernel
theorem dL_owner_26 : decode cL_owner 26 = .ok (.irem, 1) := by decide +kernel
theorem dL_owner_27 : decode cL_owner 27 = .ok (.istore_n 3, 1) := by decide +kernel
theorem dL_owner_28 : decode cL_owner 28 = .ok (.iinc 4 1, 3) := by decide +kernel
theorem dL_owner_31 : decode cL_owner 31 = .ok (.goto (-26), 3) := by decide +kernel
theorem dL_owner_34 : decode cL_owner 34 = .ok (.iload_n 3, 1) := by decide +kernel
theorem dL_owner_35 : decode cL_owner 35 = .ok (.aload_n 1, 1) := by decide +kernel
theorem dL_owner_36 : decode cL_owner 36 = .ok (.aload_n 2, 1) := by decide +kernel
theorem dL_owner_37 : decode cL_owner 37 = .ok (.invokestatic 45, 3) := by decide +kernel
theorem dL_owner_40 : decode cL_owner 40 = .ok (.ifCond .eq 7, 3) := by decide +kernel
theorem dL_owner_43 : decode cL_owner 43 = .ok (.iload_n 3, 1) := by decide +kernel
theorem dL_owner_44 : decode cL_owner 44 = .ok (.goto 4, 3) := by decide +kernel
theorem dL_owner_47 : decode cL_owner 47 = .ok (.iconst (-1), 1) := by decide +kernel
theorem dL_owner_48 : decode cL_owner 48 = .ok (.ireturn, 1) := by decide +kernel
theorem dL_wrong_0 : decode cL_wrong 0 = .ok (.iconst 0, 1) := by decide +kernel
