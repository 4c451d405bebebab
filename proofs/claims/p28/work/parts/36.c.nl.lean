theorem dL_wrong_1 : decode cL_wrong 1 = .ok (.istore 4, 2) := by decide +kernel
theorem dL_wrong_3 : decode cL_wrong 3 = .ok (.iconst 0, 1) := by decide +kernel
theorem dL_wrong_4 : decode cL_wrong 4 = .ok (.istore 5, 2) := by decide +kernel
theorem dL_wrong_6 : decode cL_wrong 6 = .ok (.iload 5, 2) := by decide +kernel
theorem dL_wrong_8 : decode cL_wrong 8 = .ok (.bipush 10, 2) := by decide +kernel
theorem dL_wrong_10 : decode cL_wrong 10 = .ok (.if_icmp .ge 202, 3) := by decide +kernel
theorem dL_wrong_13 : decode cL_wrong 13 = .ok (.aload_n 1, 1) := by decide +kernel
theorem dL_wrong_14 : decode cL_wrong 14 = .ok (.iload 5, 2) := by decide +kernel
theorem dL_wrong_16 : decode cL_wrong 16 = .ok (.iaload, 1) := by decide +kernel
theorem dL_wrong_17 : decode cL_wrong 17 = .ok (.istore 6, 2) := by decide +kernel
theorem dL_wrong_19 : decode cL_wrong 19 = .ok (.iload 6, 2) := by decide +kernel
theorem dL_wrong_21 : decode cL_wrong 21 = .ok (.bipush 63, 2) := by decide +kernel
theorem dL_wrong_23 : decode cL_wrong 23 = .ok (.iadd, 1) := by decide +kernel
theorem dL_wrong_24 : decode cL_wrong 24 = .ok (.bipush 64, 2) := by decide +kernel
theorem dL_wrong_26 : decode cL_wrong 26 = .ok (.irem, 1) := by decide +kernel
theorem dL_wrong_27 : decode cL_wrong 27 = .ok (.istore 7, 2) := by decide +kernel
theorem dL_wrong_29 : decode cL_wrong 29 = .ok (.aload_n 1, 1) := by decide +kernel
theorem dL_wrong_30 : decode cL_wrong 30 = .ok (.bipush 10, 2) := by decide +kernel
theorem dL_wrong_32 : decode cL_wrong 32 = .ok (.iload 5, 2) := by decide +kernel
theorem dL_wrong_34 : decode cL_wrong 34 = .ok (.iadd, 1) := by decide +kernel
theorem dL_wrong_35 : decode cL_wrong 35 = .ok (.iaload, 1) := by decide +kernel
theorem dL_wrong_36 : decode cL_wrong 36 = .ok (.iconst 1, 1) := by decide +kernel
theorem dL_wrong_37 : decode cL_wrong 37 = .ok (.if_icmp .ne 26, 3) := by decide +kernel
theorem dL_wrong_40 : decode cL_wrong 40 = .ok (.iload 7, 2) := by decide +kernel
theorem dL_wrong_42 : decode cL_wrong 42 = .ok (.aload_n 0, 1) := by decide +kernel
theorem dL_wrong_43 : decode cL_wrong 43 = .ok (.aload_n 1, 1) := by decide +kernel
theorem dL_wrong_44 : decode cL_wrong 44 = .ok (.invokestatic 45, 3) := by decide +kernel
theorem dL_wrong_47 : decode cL_wrong 47 = .ok (.ifCond .ne 16, 3) := by decide +kernel
theorem dL_wrong_50 : decode cL_wrong 50 = .ok (.iload 7, 2) := by decide +kernel
theorem dL_wrong_52 : decode cL_wrong 52 = .ok (.bipush 63, 2) := by decide +kernel
theorem dL_wrong_54 : decode cL_wrong 54 = .ok (.iadd, 1) := by decide +kernel
theorem dL_wrong_55 : decode cL_wrong 55 = .ok (.bipush 64, 2) := by decide +kernel
theorem dL_wrong_57 : decode cL_wrong 57 = .ok (.irem, 1) := by decide +kernel
theorem dL_wrong_58 : decode cL_wrong 58 = .ok (.istore 7, 2) := by decide +kernel
theorem dL_wrong_60 : decode cL_wrong 60 = .ok (.goto (-31), 3) := by decide +kernel
theorem dL_wrong_63 : decode cL_wrong 63 = .ok (.iload 4, 2) := by decide +kernel
theorem dL_wrong_65 : decode cL_wrong 65 = .ok (.aload_n 1, 1) := by decide +kernel
theorem dL_wrong_66 : decode cL_wrong 66 = .ok (.bipush 10, 2) := by decide +kernel
theorem dL_wrong_68 : decode cL_wrong 68 = .ok (.iload 5, 2) := by decide +kernel
theorem dL_wrong_70 : decode cL_wrong 70 = .ok (.iadd, 1) := by decide +kernel
theorem dL_wrong_71 : decode cL_wrong 71 = .ok (.iaload, 1) := by decide +kernel
theorem dL_wrong_72 : decode cL_wrong 72 = .ok (.iconst 1, 1) := by decide +kernel
theorem dL_wrong_73 : decode cL_wrong 73 = .ok (.if_icmp .ne 30, 3) := by decide +kernel
theorem dL_wrong_76 : decode cL_wrong 76 = .ok (.iload 6, 2) := by decide +kernel
theorem dL_wrong_78 : decode cL_wrong 78 = .ok (.aload_n 0, 1) := by decide +kernel
theorem dL_wrong_79 : decode cL_wrong 79 = .ok (.aload_n 1, 1) := by decide +kernel
theorem dL_wrong_80 : decode cL_wrong 80 = .ok (.aload_n 2, 1) := by decide +kernel
theorem dL_wrong_81 : decode cL_wrong 81 = .ok (.invokestatic 51, 3) := by decide +kernel
theorem dL_wrong_84 : decode cL_wrong 84 = .ok (.iload 6, 2) := by decide +kernel
theorem dL_wrong_86 : decode cL_wrong 86 = .ok (.iconst 1, 1) := by decide +kernel
theorem dL_wrong_87 : decode cL_wrong 87 = .ok (.iadd, 1) := by decide +kernel
theorem dL_wrong_88 : decode cL_wrong 88 = .ok (.bipush 64, 2) := by decide +kernel
theorem dL_wrong_90 : decode cL_wrong 90 = .ok (.irem, 1) := by decide +kernel
theorem dL_wrong_91 : decode cL_wrong 91 = .ok (.aload_n 0, 1) := by decide +kernel
theorem dL_wrong_92 : decode cL_wrong 92 = .ok (.aload_n 1, 1) := by decide +kernel
theorem dL_wrong_93 : decode cL_wrong 93 = .ok (.invokestatic 81, 3) := by decide +kernel
theorem dL_wrong_96 : decode cL_wrong 96 = .ok (.if_icmp .eq 7, 3) := by decide +kernel
theorem dL_wrong_99 : decode cL_wrong 99 = .ok (.iconst 1, 1) := by decide +kernel
theorem dL_wrong_100 : decode cL_wrong 100 = .ok (.goto 4, 3) := by decide +kernel
theorem dL_wrong_103 : decode cL_wrong 103 = .ok (.iconst 0, 1) := by decide +kernel
theorem dL_wrong_104 : decode cL_wrong 104 = .ok (.iadd, 1) := by decide +kernel
theorem dL_wrong_105 : decode cL_wrong 105 = .ok (.istore 4, 2) := by decide +kernel
theorem dL_wrong_107 : decode cL_wrong 107 = .ok (.iload 4, 2) := by decide +kernel
theorem dL_wrong_109 : decode cL_wrong 109 = .ok (.aload_n 1, 1) := by decide +kernel
theorem dL_wrong_110 : decode cL_wrong 110 = .ok (.bipush 10, 2) := by decide +kernel
theorem dL_wrong_112 : decode cL_wrong 112 = .ok (.iload 5, 2) := by decide +kernel
theorem dL_wrong_114 : decode cL_wrong 114 = .ok (.iadd, 1) := by decide +kernel
theorem dL_wrong_115 : decode cL_wrong 115 = .ok (.iaload, 1) := by decide +kernel
theorem dL_wrong_116 : decode cL_wrong 116 = .ok (.iconst 1, 1) := by decide +kernel
theorem dL_wrong_117 : decode cL_wrong 117 = .ok (.if_icmp .ne 20, 3) := by decide +kernel
theorem dL_wrong_120 : decode cL_wrong 120 = .ok (.aload_n 2, 1) := by decide +kernel
theorem dL_wrong_121 : decode cL_wrong 121 = .ok (.iconst 4, 1) := by decide +kernel
theorem dL_wrong_122 : decode cL_wrong 122 = .ok (.iload 5, 2) := by decide +kernel
theorem dL_wrong_124 : decode cL_wrong 124 = .ok (.imul, 1) := by decide +kernel
theorem dL_wrong_125 : decode cL_wrong 125 = .ok (.iconst 3, 1) := by decide +kernel
theorem dL_wrong_126 : decode cL_wrong 126 = .ok (.iadd, 1) := by decide +kernel
theorem dL_wrong_127 : decode cL_wrong 127 = .ok (.iaload, 1) := by decide +kernel
theorem dL_wrong_128 : decode cL_wrong 128 = .ok (.iload 7, 2) := by decide +kernel
theorem dL_wrong_130 : decode cL_wrong 130 = .ok (.if_icmp .eq 7, 3) := by decide +kernel
theorem dL_wrong_133 : decode cL_wrong 133 = .ok (.iconst 1, 1) := by decide +kernel
theorem dL_wrong_134 : decode cL_wrong 134 = .ok (.goto 4, 3) := by decide +kernel
theorem dL_wrong_137 : decode cL_wrong 137 = .ok (.iconst 0, 1) := by decide +kernel
theorem dL_wrong_138 : decode cL_wrong 138 = .ok (.iadd, 1) := by decide +kernel
theorem dL_wrong_139 : decode cL_wrong 139 = .ok (.istore 4, 2) := by decide +kernel
theorem dL_wrong_141 : decode cL_wrong 141 = .ok (.iconst 0, 1) := by decide +kernel
theorem dL_wrong_142 : decode cL_wrong 142 = .ok (.istore 8, 2) := by decide +kernel
theorem dL_wrong_144 : decode cL_wrong 144 = .ok (.iload 8, 2) := by decide +kernel
theorem dL_wrong_146 : decode cL_wrong 146 = .ok (.bipush 6, 2) := by decide +kernel
theorem dL_wrong_148 : decode cL_wrong 148 = .ok (.if_icmp .ge 58, 3) := by decide +kernel
theorem dL_wrong_151 : decode cL_wrong 151 = .ok (.iload 4, 2) := by decide +kernel
theorem dL_wrong_153 : decode cL_wrong 153 = .ok (.aload_n 1, 1) := by decide +kernel
theorem dL_wrong_154 : decode cL_wrong 154 = .ok (.bipush 10, 2) := by decide +kernel
theorem dL_wrong_156 : decode cL_wrong 156 = .ok (.iload 5, 2) := by decide +kernel
theorem dL_wrong_158 : decode cL_wrong 158 = .ok (.iadd, 1) := by decide +kernel
theorem dL_wrong_159 : decode cL_wrong 159 = .ok (.iaload, 1) := by decide +kernel
theorem dL_wrong_160 : decode cL_wrong 160 = .ok (.iconst 1, 1) := by decide +kernel
theorem dL_wrong_161 : decode cL_wrong 161 = .ok (.if_icmp .ne 35, 3) := by decide +kernel
theorem dL_wrong_164 : decode cL_wrong 164 = .ok (.aload_n 3, 1) := by decide +kernel
theorem dL_wrong_165 : decode cL_wrong 165 = .ok (.bipush 6, 2) := by decide +kernel
theorem dL_wrong_167 : decode cL_wrong 167 = .ok (.iload 5, 2) := by decide +kernel
theorem dL_wrong_169 : decode cL_wrong 169 = .ok (.imul, 1) := by decide +kernel
theorem dL_wrong_170 : decode cL_wrong 170 = .ok (.iload 8, 2) := by decide +kernel
theorem dL_wrong_172 : decode cL_wrong 172 = .ok (.iadd, 1) := by decide +kernel
theorem dL_wrong_173 : decode cL_wrong 173 = .ok (.iaload, 1) := by decide +kernel
theorem dL_wrong_174 : decode cL_wrong 174 = .ok (.iload 6, 2) := by decide +kernel
theorem dL_wrong_176 : decode cL_wrong 176 = .ok (.iconst 1, 1) := by decide +kernel
theorem dL_wrong_177 : decode cL_wrong 177 = .ok (.iload 8, 2) := by decide +kernel
theorem dL_wrong_179 : decode cL_wrong 179 = .ok (.ishl, 1) := by decide +kernel
theorem dL_wrong_180 : decode cL_wrong 180 = .ok (.iadd, 1) := by decide +kernel
theorem dL_wrong_181 : decode cL_wrong 181 = .ok (.bipush 64, 2) := by decide +kernel
theorem dL_wrong_183 : decode cL_wrong 183 = .ok (.irem, 1) := by decide +kernel
theorem dL_wrong_184 : decode cL_wrong 184 = .ok (.aload_n 0, 1) := by decide +kernel
theorem dL_wrong_185 : decode cL_wrong 185 = .ok (.aload_n 1, 1) := by decide +kernel
theorem dL_wrong_186 : decode cL_wrong 186 = .ok (.invokestatic 81, 3) := by decide +kernel
theorem dL_wrong_189 : decode cL_wrong 189 = .ok (.if_icmp .eq 7, 3) := by decide +kernel
theorem dL_wrong_192 : decode cL_wrong 192 = .ok (.iconst 1, 1) := by decide +kernel
theorem dL_wrong_193 : decode cL_wrong 193 = .ok (.goto 4, 3) := by decide +kernel
theorem dL_wrong_196 : decode cL_wrong 196 = .ok (.iconst 0, 1) := by decide +kernel
theorem dL_wrong_197 : decode cL_wrong 197 = .ok (.iadd, 1) := by decide +kernel
theorem dL_wrong_198 : decode cL_wrong 198 = .ok (.istore 4, 2) := by decide +kernel
theorem dL_wrong_200 : decode cL_wrong 200 = .ok (.iinc 8 1, 3) := by decide +kernel
theorem dL_wrong_203 : decode cL_wrong 203 = .ok (.goto (-59), 3) := by decide +kernel
theorem dL_wrong_206 : decode cL_wrong 206 = .ok (.iinc 5 1, 3) := by decide +kernel
theorem dL_wrong_209 : decode cL_wrong 209 = .ok (.goto (-203), 3) := by decide +kernel
theorem dL_wrong_212 : decode cL_wrong 212 = .ok (.iload 4, 2) := by decide +kernel
theorem dL_wrong_214 : decode cL_wrong 214 = .ok (.ireturn, 1) := by decide +kernel
theorem dL_isSo_0 : decode cL_isSo 0 = .ok (.aload_n 0, 1) := by decide +kernel
theorem dL_isSo_1 : decode cL_isSo 1 = .ok (.invokevirtual 85, 3) := by decide +kernel
theorem dL_isSo_4 : decode cL_isSo 4 = .ok (.aload_n 2, 1) := by decide +kernel
theorem dL_isSo_5 : decode cL_isSo 5 = .ok (.invokestatic 71, 3) := by decide +kernel
theorem dL_isSo_8 : decode cL_isSo 8 = .ok (.if_icmp .ne 22, 3) := by decide +kernel
theorem dL_isSo_11 : decode cL_isSo 11 = .ok (.aload_n 0, 1) := by decide +kernel
theorem dL_isSo_12 : decode cL_isSo 12 = .ok (.invokevirtual 89, 3) := by decide +kernel
theorem dL_isSo_15 : decode cL_isSo 15 = .ok (.aload_n 1, 1) := by decide +kernel
theorem dL_isSo_16 : decode cL_isSo 16 = .ok (.aload_n 2, 1) := by decide +kernel
theorem dL_isSo_17 : decode cL_isSo 17 = .ok (.aload_n 3, 1) := by decide +kernel
theorem dL_isSo_18 : decode cL_isSo 18 = .ok (.aload 4, 2) := by decide +kernel
theorem dL_isSo_20 : decode cL_isSo 20 = .ok (.invokestatic 92, 3) := by decide +kernel
theorem dL_isSo_23 : decode cL_isSo 23 = .ok (.if_icmp .ne 7, 3) := by decide +kernel
theorem dL_isSo_26 : decode cL_isSo 26 = .ok (.iconst 1, 1) := by decide +kernel
theorem dL_isSo_27 : decode cL_isSo 27 = .ok (.goto 4, 3) := by decide +kernel
theorem dL_isSo_30 : decode cL_isSo 30 = .ok (.iconst 0, 1) := by decide +kernel
theorem dL_isSo_31 : decode cL_isSo 31 = .ok (.istore 6, 2) := by decide +kernel
theorem dL_isSo_33 : decode cL_isSo 33 = .ok (.iconst 0, 1) := by decide +kernel
theorem dL_isSo_34 : decode cL_isSo 34 = .ok (.istore 7, 2) := by decide +kernel
theorem dL_isSo_36 : decode cL_isSo 36 = .ok (.iload 7, 2) := by decide +kernel
theorem dL_isSo_38 : decode cL_isSo 38 = .ok (.bipush 10, 2) := by decide +kernel
theorem dL_isSo_40 : decode cL_isSo 40 = .ok (.if_icmp .ge 200, 3) := by decide +kernel
theorem dL_isSo_43 : decode cL_isSo 43 = .ok (.iload 6, 2) := by decide +kernel
theorem dL_isSo_45 : decode cL_isSo 45 = .ok (.ifCond .eq 195, 3) := by decide +kernel
theorem dL_isSo_48 : decode cL_isSo 48 = .ok (.aload_n 2, 1) := by decide +kernel
theorem dL_isSo_49 : decode cL_isSo 49 = .ok (.iload 7, 2) := by decide +kernel
theorem dL_isSo_51 : decode cL_isSo 51 = .ok (.iaload, 1) := by decide +kernel
theorem dL_isSo_52 : decode cL_isSo 52 = .ok (.istore 8, 2) := by decide +kernel
theorem dL_isSo_54 : decode cL_isSo 54 = .ok (.aload_n 0, 1) := by decide +kernel
theorem dL_isSo_55 : decode cL_isSo 55 = .ok (.iload 8, 2) := by decide +kernel
theorem dL_isSo_57 : decode cL_isSo 57 = .ok (.invokevirtual 96, 3) := by decide +kernel
theorem dL_isSo_60 : decode cL_isSo 60 = .ok (.aload_n 2, 1) := by decide +kernel
theorem dL_isSo_61 : decode cL_isSo 61 = .ok (.bipush 10, 2) := by decide +kernel
theorem dL_isSo_63 : decode cL_isSo 63 = .ok (.iload 7, 2) := by decide +kernel
theorem dL_isSo_65 : decode cL_isSo 65 = .ok (.iadd, 1) := by decide +kernel
theorem dL_isSo_66 : decode cL_isSo 66 = .ok (.iaload, 1) := by decide +kernel
theorem dL_isSo_67 : decode cL_isSo 67 = .ok (.iconst 1, 1) := by decide +kernel
theorem dL_isSo_68 : decode cL_isSo 68 = .ok (.if_icmp .ne 7, 3) := by decide +kernel
theorem dL_isSo_71 : decode cL_isSo 71 = .ok (.iconst 1, 1) := by decide +kernel
theorem dL_isSo_72 : decode cL_isSo 72 = .ok (.goto 4, 3) := by decide +kernel
theorem dL_isSo_75 : decode cL_isSo 75 = .ok (.iconst 0, 1) := by decide +kernel
theorem dL_isSo_76 : decode cL_isSo 76 = .ok (.if_icmp .ne 7, 3) := by decide +kernel
theorem dL_isSo_79 : decode cL_isSo 79 = .ok (.iconst 1, 1) := by decide +kernel
theorem dL_isSo_80 : decode cL_isSo 80 = .ok (.goto 4, 3) := by decide +kernel
theorem dL_isSo_83 : decode cL_isSo 83 = .ok (.iconst 0, 1) := by decide +kernel
theorem dL_isSo_84 : decode cL_isSo 84 = .ok (.istore 6, 2) := by decide +kernel
theorem dL_isSo_86 : decode cL_isSo 86 = .ok (.iconst 0, 1) := by decide +kernel
theorem dL_isSo_87 : decode cL_isSo 87 = .ok (.istore 9, 2) := by decide +kernel
theorem dL_isSo_89 : decode cL_isSo 89 = .ok (.iload 9, 2) := by decide +kernel
theorem dL_isSo_91 : decode cL_isSo 91 = .ok (.bipush 6, 2) := by decide +kernel
theorem dL_isSo_93 : decode cL_isSo 93 = .ok (.if_icmp .ge 141, 3) := by decide +kernel
theorem dL_isSo_96 : decode cL_isSo 96 = .ok (.iload 6, 2) := by decide +kernel
theorem dL_isSo_98 : decode cL_isSo 98 = .ok (.ifCond .eq 136, 3) := by decide +kernel
theorem dL_isSo_101 : decode cL_isSo 101 = .ok (.aload_n 2, 1) := by decide +kernel
theorem dL_isSo_102 : decode cL_isSo 102 = .ok (.bipush 10, 2) := by decide +kernel
theorem dL_isSo_104 : decode cL_isSo 104 = .ok (.iload 7, 2) := by decide +kernel
theorem dL_isSo_106 : decode cL_isSo 106 = .ok (.iadd, 1) := by decide +kernel
theorem dL_isSo_107 : decode cL_isSo 107 = .ok (.iaload, 1) := by decide +kernel
theorem dL_isSo_108 : decode cL_isSo 108 = .ok (.iconst 1, 1) := by decide +kernel
theorem dL_isSo_109 : decode cL_isSo 109 = .ok (.if_icmp .ne 125, 3) := by decide +kernel
theorem dL_isSo_112 : decode cL_isSo 112 = .ok (.aload_n 0, 1) := by decide +kernel
theorem dL_isSo_113 : decode cL_isSo 113 = .ok (.iload 8, 2) := by decide +kernel
theorem dL_isSo_115 : decode cL_isSo 115 = .ok (.iload 9, 2) := by decide +kernel
theorem dL_isSo_117 : decode cL_isSo 117 = .ok (.invokevirtual 99, 3) := by decide +kernel
theorem dL_isSo_120 : decode cL_isSo 120 = .ok (.aload 4, 2) := by decide +kernel
theorem dL_isSo_122 : decode cL_isSo 122 = .ok (.bipush 6, 2) := by decide +kernel
theorem dL_isSo_124 : decode cL_isSo 124 = .ok (.iload 7, 2) := by decide +kernel
theorem dL_isSo_126 : decode cL_isSo 126 = .ok (.imul, 1) := by decide +kernel
theorem dL_isSo_127 : decode cL_isSo 127 = .ok (.iload 9, 2) := by decide +kernel
theorem dL_isSo_129 : decode cL_isSo 129 = .ok (.iadd, 1) := by decide +kernel
theorem dL_isSo_130 : decode cL_isSo 130 = .ok (.iaload, 1) := by decide +kernel
theorem dL_isSo_131 : decode cL_isSo 131 = .ok (.if_icmp .ne 94, 3) := by decide +kernel
theorem dL_isSo_134 : decode cL_isSo 134 = .ok (.aload_n 0, 1) := by decide +kernel
theorem dL_isSo_135 : decode cL_isSo 135 = .ok (.iload 8, 2) := by decide +kernel
theorem dL_isSo_137 : decode cL_isSo 137 = .ok (.aload_n 2, 1) := by decide +kernel
theorem dL_isSo_138 : decode cL_isSo 138 = .ok (.bipush 20, 2) := by decide +kernel
theorem dL_isSo_140 : decode cL_isSo 140 = .ok (.iload 9, 2) := by decide +kernel
theorem dL_isSo_142 : decode cL_isSo 142 = .ok (.iadd, 1) := by decide +kernel
theorem dL_isSo_143 : decode cL_isSo 143 = .ok (.iaload, 1) := by decide +kernel
theorem dL_isSo_144 : decode cL_isSo 144 = .ok (.invokevirtual 102, 3) := by decide +kernel
theorem dL_isSo_147 : decode cL_isSo 147 = .ok (.aload 5, 2) := by decide +kernel
theorem dL_isSo_149 : decode cL_isSo 149 = .ok (.bipush 6, 2) := by decide +kernel
theorem dL_isSo_151 : decode cL_isSo 151 = .ok (.iload 7, 2) := by decide +kernel
theorem dL_isSo_153 : decode cL_isSo 153 = .ok (.imul, 1) := by decide +kernel
theorem dL_isSo_154 : decode cL_isSo 154 = .ok (.iload 9, 2) := by decide +kernel
theorem dL_isSo_156 : decode cL_isSo 156 = .ok (.iadd, 1) := by decide +kernel
theorem dL_isSo_157 : decode cL_isSo 157 = .ok (.iaload, 1) := by decide +kernel
theorem dL_isSo_158 : decode cL_isSo 158 = .ok (.if_icmp .ne 67, 3) := by decide +kernel
theorem dL_isSo_161 : decode cL_isSo 161 = .ok (.iload 9, 2) := by decide +kernel
theorem dL_isSo_163 : decode cL_isSo 163 = .ok (.iconst 2, 1) := by decide +kernel
theorem dL_isSo_164 : decode cL_isSo 164 = .ok (.if_icmp .gt 23, 3) := by decide +kernel
theorem dL_isSo_167 : decode cL_isSo 167 = .ok (.aload_n 0, 1) := by decide +kernel
theorem dL_isSo_168 : decode cL_isSo 168 = .ok (.iload 8, 2) := by decide +kernel
theorem dL_isSo_170 : decode cL_isSo 170 = .ok (.iload 9, 2) := by decide +kernel
theorem dL_isSo_172 : decode cL_isSo 172 = .ok (.invokevirtual 105, 3) := by decide +kernel
theorem dL_isSo_175 : decode cL_isSo 175 = .ok (.aload_n 3, 1) := by decide +kernel
theorem dL_isSo_176 : decode cL_isSo 176 = .ok (.iconst 4, 1) := by decide +kernel
theorem dL_isSo_177 : decode cL_isSo 177 = .ok (.iload 7, 2) := by decide +kernel
theorem dL_isSo_179 : decode cL_isSo 179 = .ok (.imul, 1) := by decide +kernel
theorem dL_isSo_180 : decode cL_isSo 180 = .ok (.iload 9, 2) := by decide +kernel
theorem dL_isSo_182 : decode cL_isSo 182 = .ok (.iadd, 1) := by decide +kernel
theorem dL_isSo_183 : decode cL_isSo 183 = .ok (.iaload, 1) := by decide +kernel
theorem dL_isSo_184 : decode cL_isSo 184 = .ok (.if_icmp .ne 41, 3) := by decide +kernel
theorem dL_isSo_187 : decode cL_isSo 187 = .ok (.aload_n 0, 1) := by decide +kernel
theorem dL_isSo_188 : decode cL_isSo 188 = .ok (.iload 8, 2) := by decide +kernel
theorem dL_isSo_190 : decode cL_isSo 190 = .ok (.invokevirtual 108, 3) := by decide +kernel
theorem dL_isSo_193 : decode cL_isSo 193 = .ok (.aload_n 3, 1) := by decide +kernel
theorem dL_isSo_194 : decode cL_isSo 194 = .ok (.iconst 4, 1) := by decide +kernel
theorem dL_isSo_195 : decode cL_isSo 195 = .ok (.iload 7, 2) := by decide +kernel
theorem dL_isSo_197 : decode cL_isSo 197 = .ok (.imul, 1) := by decide +kernel
theorem dL_isSo_198 : decode cL_isSo 198 = .ok (.iconst 3, 1) := by decide +kernel
theorem dL_isSo_199 : decode cL_isSo 199 = .ok (.iadd, 1) := by decide +kernel
theorem dL_isSo_200 : decode cL_isSo 200 = .ok (.iaload, 1) := by decide +kernel
theorem dL_isSo_201 : decode cL_isSo 201 = .ok (.if_icmp .ne 24, 3) := by decide +kernel
theorem dL_isSo_204 : decode cL_isSo 204 = .ok (.aload_n 0, 1) := by decide +kernel
theorem dL_isSo_205 : decode cL_isSo 205 = .ok (.iload 8, 2) := by decide +kernel
theorem dL_isSo_207 : decode cL_isSo 207 = .ok (.invokevirtual 111, 3) := by decide +kernel
theorem dL_isSo_210 : decode cL_isSo 210 = .ok (.iload 8, 2) := by decide +kernel
theorem dL_isSo_212 : decode cL_isSo 212 = .ok (.aload_n 1, 1) := by decide +kernel
theorem dL_isSo_213 : decode cL_isSo 213 = .ok (.aload_n 2, 1) := by decide +kernel
theorem dL_isSo_214 : decode cL_isSo 214 = .ok (.aload_n 3, 1) := by decide +kernel
theorem dL_isSo_215 : decode cL_isSo 215 = .ok (.invokestatic 51, 3) := by decide +kernel
theorem dL_isSo_218 : decode cL_isSo 218 = .ok (.if_icmp .ne 7, 3) := by decide +kernel
theorem dL_isSo_221 : decode cL_isSo 221 = .ok (.iconst 1, 1) := by decide +kernel
theorem dL_isSo_222 : decode cL_isSo 222 = .ok (.goto 4, 3) := by decide +kernel
theorem dL_isSo_225 : decode cL_isSo 225 = .ok (.iconst 0, 1) := by decide +kernel
theorem dL_isSo_226 : decode cL_isSo 226 = .ok (.istore 6, 2) := by decide +kernel
theorem dL_isSo_228 : decode cL_isSo 228 = .ok (.iinc 9 1, 3) := by decide +kernel
theorem dL_isSo_231 : decode cL_isSo 231 = .ok (.goto (-142), 3) := by decide +kernel
theorem dL_isSo_234 : decode cL_isSo 234 = .ok (.iinc 7 1, 3) := by decide +kernel
theorem dL_isSo_237 : decode cL_isSo 237 = .ok (.goto (-201), 3) := by decide +kernel
theorem dL_isSo_240 : decode cL_isSo 240 = .ok (.iconst 0, 1) := by decide +kernel
theorem dL_isSo_241 : decode cL_isSo 241 = .ok (.istore 7, 2) := by decide +kernel
theorem dL_isSo_243 : decode cL_isSo 243 = .ok (.iload 7, 2) := by decide +kernel
theorem dL_isSo_245 : decode cL_isSo 245 = .ok (.bipush 6, 2) := by decide +kernel
theorem dL_isSo_247 : decode cL_isSo 247 = .ok (.if_icmp .ge 117, 3) := by decide +kernel
theorem dL_isSo_250 : decode cL_isSo 250 = .ok (.iload 6, 2) := by decide +kernel
theorem dL_isSo_252 : decode cL_isSo 252 = .ok (.ifCond .eq 112, 3) := by decide +kernel
theorem dL_isSo_255 : decode cL_isSo 255 = .ok (.iconst 0, 1) := by decide +kernel
theorem dL_isSo_256 : decode cL_isSo 256 = .ok (.istore 8, 2) := by decide +kernel
theorem dL_isSo_258 : decode cL_isSo 258 = .ok (.iconst 0, 1) := by decide +kernel
theorem dL_isSo_259 : decode cL_isSo 259 = .ok (.istore 9, 2) := by decide +kernel
theorem dL_isSo_261 : decode cL_isSo 261 = .ok (.iload 9, 2) := by decide +kernel
theorem dL_isSo_263 : decode cL_isSo 263 = .ok (.bipush 10, 2) := by decide +kernel
theorem dL_isSo_265 : decode cL_isSo 265 = .ok (.if_icmp .ge 44, 3) := by decide +kernel
theorem dL_isSo_268 : decode cL_isSo 268 = .ok (.iload 8, 2) := by decide +kernel
theorem dL_isSo_270 : decode cL_isSo 270 = .ok (.aload_n 2, 1) := by decide +kernel
theorem dL_isSo_271 : decode cL_isSo 271 = .ok (.bipush 10, 2) := by decide +kernel
theorem dL_isSo_273 : decode cL_isSo 273 = .ok (.iload 9, 2) := by decide +kernel
theorem dL_isSo_275 : decode cL_isSo 275 = .ok (.iadd, 1) := by decide +kernel
theorem dL_isSo_276 : decode cL_isSo 276 = .ok (.iaload, 1) := by decide +kernel
theorem dL_isSo_277 : decode cL_isSo 277 = .ok (.iconst 1, 1) := by decide +kernel
theorem dL_isSo_278 : decode cL_isSo 278 = .ok (.if_icmp .ne 21, 3) := by decide +kernel
theorem dL_isSo_281 : decode cL_isSo 281 = .ok (.aload 5, 2) := by decide +kernel
theorem dL_isSo_283 : decode cL_isSo 283 = .ok (.bipush 6, 2) := by decide +kernel
theorem dL_isSo_285 : decode cL_isSo 285 = .ok (.iload 9, 2) := by decide +kernel
theorem dL_isSo_287 : decode cL_isSo 287 = .ok (.imul, 1) := by decide +kernel
theorem dL_isSo_288 : decode cL_isSo 288 = .ok (.iload 7, 2) := by decide +kernel
theorem dL_isSo_290 : decode cL_isSo 290 = .ok (.iadd, 1) := by decide +kernel
theorem dL_isSo_291 : decode cL_isSo 291 = .ok (.iaload, 1) := by decide +kernel
theorem dL_isSo_292 : decode cL_isSo 292 = .ok (.ifCond .lt 7, 3) := by decide +kernel
theorem dL_isSo_295 : decode cL_isSo 295 = .ok (.iconst 1, 1) := by decide +kernel
theorem dL_isSo_296 : decode cL_isSo 296 = .ok (.goto 4, 3) := by decide +kernel
theorem dL_isSo_299 : decode cL_isSo 299 = .ok (.iconst 0, 1) := by decide +kernel
theorem dL_isSo_300 : decode cL_isSo 300 = .ok (.iadd, 1) := by decide +kernel
theorem dL_isSo_301 : decode cL_isSo 301 = .ok (.istore 8, 2) := by decide +kernel
theorem dL_isSo_303 : decode cL_isSo 303 = .ok (.iinc 9 1, 3) := by decide +kernel
theorem dL_isSo_306 : decode cL_isSo 306 = .ok (.goto (-45), 3) := by decide +kernel
theorem dL_isSo_309 : decode cL_isSo 309 = .ok (.aload_n 0, 1) := by decide +kernel
theorem dL_isSo_310 : decode cL_isSo 310 = .ok (.aload_n 2, 1) := by decide +kernel
theorem dL_isSo_311 : decode cL_isSo 311 = .ok (.bipush 20, 2) := by decide +kernel
theorem dL_isSo_313 : decode cL_isSo 313 = .ok (.iload 7, 2) := by decide +kernel
theorem dL_isSo_315 : decode cL_isSo 315 = .ok (.iadd, 1) := by decide +kernel
theorem dL_isSo_316 : decode cL_isSo 316 = .ok (.iaload, 1) := by decide +kernel
theorem dL_isSo_317 : decode cL_isSo 317 = .ok (.invokevirtual 114, 3) := by decide +kernel
theorem dL_isSo_320 : decode cL_isSo 320 = .ok (.iload 8, 2) := by decide +kernel
theorem dL_isSo_322 : decode cL_isSo 322 = .ok (.if_icmp .ne 33, 3) := by decide +kernel
theorem dL_isSo_325 : decode cL_isSo 325 = .ok (.aload_n 0, 1) := by decide +kernel
theorem dL_isSo_326 : decode cL_isSo 326 = .ok (.aload_n 2, 1) := by decide +kernel
theorem dL_isSo_327 : decode cL_isSo 327 = .ok (.bipush 20, 2) := by decide +kernel
theorem dL_isSo_329 : decode cL_isSo 329 = .ok (.iload 7, 2) := by decide +kernel
theorem dL_isSo_331 : decode cL_isSo 331 = .ok (.iadd, 1) := by decide +kernel
theorem dL_isSo_332 : decode cL_isSo 332 = .ok (.iaload, 1) := by decide +kernel
theorem dL_isSo_333 : decode cL_isSo 333 = .ok (.invokevirtual 117, 3) := by decide +kernel
theorem dL_isSo_336 : decode cL_isSo 336 = .ok (.aload_n 2, 1) := by decide +kernel
theorem dL_isSo_337 : decode cL_isSo 337 = .ok (.bipush 20, 2) := by decide +kernel
theorem dL_isSo_339 : decode cL_isSo 339 = .ok (.iload 7, 2) := by decide +kernel
theorem dL_isSo_341 : decode cL_isSo 341 = .ok (.iadd, 1) := by decide +kernel
theorem dL_isSo_342 : decode cL_isSo 342 = .ok (.iaload, 1) := by decide +kernel
theorem dL_isSo_343 : decode cL_isSo 343 = .ok (.aload_n 1, 1) := by decide +kernel
theorem dL_isSo_344 : decode cL_isSo 344 = .ok (.aload_n 2, 1) := by decide +kernel
theorem dL_isSo_345 : decode cL_isSo 345 = .ok (.invokestatic 81, 3) := by decide +kernel
theorem dL_isSo_348 : decode cL_isSo 348 = .ok (.if_icmp .ne 7, 3) := by decide +kernel
theorem dL_isSo_351 : decode cL_isSo 351 = .ok (.iconst 1, 1) := by decide +kernel
theorem dL_isSo_352 : decode cL_isSo 352 = .ok (.goto 4, 3) := by decide +kernel
theorem dL_isSo_355 : decode cL_isSo 355 = .ok (.iconst 0, 1) := by decide +kernel
theorem dL_isSo_356 : decode cL_isSo 356 = .ok (.istore 6, 2) := by decide +kernel
theorem dL_isSo_358 : decode cL_isSo 358 = .ok (.iinc 7 1, 3) := by decide +kernel
theorem dL_isSo_361 : decode cL_isSo 361 = .ok (.goto (-118), 3) := by decide +kernel
theorem dL_isSo_364 : decode cL_isSo 364 = .ok (.iload 6, 2) := by decide +kernel
theorem dL_isSo_366 : decode cL_isSo 366 = .ok (.ireturn, 1) := by decide +kernel
theorem dL_looks_0 : decode cL_looks 0 = .ok (.iload_n 1, 1) := by decide +kernel
theorem dL_looks_1 : decode cL_looks 1 = .ok (.aload 4, 2) := by decide +kernel
theorem dL_looks_3 : decode cL_looks 3 = .ok (.bipush 20, 2) := by decide +kernel
theorem dL_looks_5 : decode cL_looks 5 = .ok (.iload_n 2, 1) := by decide +kernel
theorem dL_looks_6 : decode cL_looks 6 = .ok (.iadd, 1) := by decide +kernel
theorem dL_looks_7 : decode cL_looks 7 = .ok (.iaload, 1) := by decide +kernel
theorem dL_looks_8 : decode cL_looks 8 = .ok (.aload_n 3, 1) := by decide +kernel
theorem dL_looks_9 : decode cL_looks 9 = .ok (.aload 4, 2) := by decide +kernel
theorem dL_looks_11 : decode cL_looks 11 = .ok (.aload 5, 2) := by decide +kernel
theorem dL_looks_13 : decode cL_looks 13 = .ok (.aload 6, 2) := by decide +kernel
theorem dL_looks_15 : decode cL_looks 15 = .ok (.invokestatic 59, 3) := by decide +kernel
theorem dL_looks_18 : decode cL_looks 18 = .ok (.istore 8, 2) := by decide +kernel
theorem dL_looks_20 : decode cL_looks 20 = .ok (.iload 8, 2) := by decide +kernel
theorem dL_looks_22 : decode cL_looks 22 = .ok (.ifCond .ge 8, 3) := by decide +kernel
theorem dL_looks_25 : decode cL_looks 25 = .ok (.bipush 64, 2) := by decide +kernel
theorem dL_looks_27 : decode cL_looks 27 = .ok (.goto 8, 3) := by decide +kernel
theorem dL_looks_30 : decode cL_looks 30 = .ok (.iload 8, 2) := by decide +kernel
theorem dL_looks_32 : decode cL_looks 32 = .ok (.bipush 100, 2) := by decide +kernel
theorem dL_looks_34 : decode cL_looks 34 = .ok (.idiv, 1) := by decide +kernel
theorem dL_looks_35 : decode cL_looks 35 = .ok (.istore 9, 2) := by decide +kernel
theorem dL_looks_37 : decode cL_looks 37 = .ok (.iload 8, 2) := by decide +kernel
theorem dL_looks_39 : decode cL_looks 39 = .ok (.ifCond .ge 7, 3) := by decide +kernel
theorem dL_looks_42 : decode cL_looks 42 = .ok (.iconst (-1), 1) := by decide +kernel
theorem dL_looks_43 : decode cL_looks 43 = .ok (.goto 8, 3) := by decide +kernel
theorem dL_looks_46 : decode cL_looks 46 = .ok (.iload 8, 2) := by decide +kernel
theorem dL_looks_48 : decode cL_looks 48 = .ok (.bipush 100, 2) := by decide +kernel
theorem dL_looks_50 : decode cL_looks 50 = .ok (.irem, 1) := by decide +kernel
theorem dL_looks_51 : decode cL_looks 51 = .ok (.istore 10, 2) := by decide +kernel
theorem dL_looks_53 : decode cL_looks 53 = .ok (.aload_n 0, 1) := by decide +kernel
theorem dL_looks_54 : decode cL_looks 54 = .ok (.iload_n 1, 1) := by decide +kernel
theorem dL_looks_55 : decode cL_looks 55 = .ok (.aload 4, 2) := by decide +kernel
theorem dL_looks_57 : decode cL_looks 57 = .ok (.bipush 20, 2) := by decide +kernel
theorem dL_looks_59 : decode cL_looks 59 = .ok (.iload_n 2, 1) := by decide +kernel
theorem dL_looks_60 : decode cL_looks 60 = .ok (.iadd, 1) := by decide +kernel
theorem dL_looks_61 : decode cL_looks 61 = .ok (.iaload, 1) := by decide +kernel
theorem dL_looks_62 : decode cL_looks 62 = .ok (.invokevirtual 119, 3) := by decide +kernel
theorem dL_looks_65 : decode cL_looks 65 = .ok (.iload 10, 2) := by decide +kernel
theorem dL_looks_67 : decode cL_looks 67 = .ok (.if_icmp .ne 77, 3) := by decide +kernel
theorem dL_looks_70 : decode cL_looks 70 = .ok (.aload_n 0, 1) := by decide +kernel
theorem dL_looks_71 : decode cL_looks 71 = .ok (.iload_n 1, 1) := by decide +kernel
theorem dL_looks_72 : decode cL_looks 72 = .ok (.aload 4, 2) := by decide +kernel
theorem dL_looks_74 : decode cL_looks 74 = .ok (.bipush 20, 2) := by decide +kernel
theorem dL_looks_76 : decode cL_looks 76 = .ok (.iload_n 2, 1) := by decide +kernel
theorem dL_looks_77 : decode cL_looks 77 = .ok (.iadd, 1) := by decide +kernel
theorem dL_looks_78 : decode cL_looks 78 = .ok (.iaload, 1) := by decide +kernel
theorem dL_looks_79 : decode cL_looks 79 = .ok (.invokevirtual 122, 3) := by decide +kernel
theorem dL_looks_82 : decode cL_looks 82 = .ok (.iload 9, 2) := by decide +kernel
theorem dL_looks_84 : decode cL_looks 84 = .ok (.if_icmp .ne 60, 3) := by decide +kernel
theorem dL_looks_87 : decode cL_looks 87 = .ok (.aload_n 0, 1) := by decide +kernel
theorem dL_looks_88 : decode cL_looks 88 = .ok (.iload_n 1, 1) := by decide +kernel
theorem dL_looks_89 : decode cL_looks 89 = .ok (.aload 4, 2) := by decide +kernel
theorem dL_looks_91 : decode cL_looks 91 = .ok (.bipush 20, 2) := by decide +kernel
theorem dL_looks_93 : decode cL_looks 93 = .ok (.iload_n 2, 1) := by decide +kernel
theorem dL_looks_94 : decode cL_looks 94 = .ok (.iadd, 1) := by decide +kernel
theorem dL_looks_95 : decode cL_looks 95 = .ok (.iaload, 1) := by decide +kernel
theorem dL_looks_96 : decode cL_looks 96 = .ok (.invokevirtual 125, 3) := by decide +kernel
theorem dL_looks_99 : decode cL_looks 99 = .ok (.iload 10, 2) := by decide +kernel
theorem dL_looks_101 : decode cL_looks 101 = .ok (.ifCond .ge 7, 3) := by decide +kernel
theorem dL_looks_104 : decode cL_looks 104 = .ok (.iconst (-1), 1) := by decide +kernel
theorem dL_looks_105 : decode cL_looks 105 = .ok (.goto 15, 3) := by decide +kernel
theorem dL_looks_108 : decode cL_looks 108 = .ok (.aload 7, 2) := by decide +kernel
theorem dL_looks_110 : decode cL_looks 110 = .ok (.bipush 6, 2) := by decide +kernel
theorem dL_looks_112 : decode cL_looks 112 = .ok (.aload_n 3, 1) := by decide +kernel
theorem dL_looks_113 : decode cL_looks 113 = .ok (.iload 10, 2) := by decide +kernel
theorem dL_looks_115 : decode cL_looks 115 = .ok (.iaload, 1) := by decide +kernel
theorem dL_looks_116 : decode cL_looks 116 = .ok (.imul, 1) := by decide +kernel
theorem dL_looks_117 : decode cL_looks 117 = .ok (.iload_n 2, 1) := by decide +kernel
theorem dL_looks_118 : decode cL_looks 118 = .ok (.iadd, 1) := by decide +kernel
theorem dL_looks_119 : decode cL_looks 119 = .ok (.iaload, 1) := by decide +kernel
theorem dL_looks_120 : decode cL_looks 120 = .ok (.if_icmp .ne 24, 3) := by decide +kernel
theorem dL_looks_123 : decode cL_looks 123 = .ok (.aload_n 0, 1) := by decide +kernel
theorem dL_looks_124 : decode cL_looks 124 = .ok (.iload_n 1, 1) := by decide +kernel
theorem dL_looks_125 : decode cL_looks 125 = .ok (.aload 4, 2) := by decide +kernel
theorem dL_looks_127 : decode cL_looks 127 = .ok (.bipush 20, 2) := by decide +kernel
theorem dL_looks_129 : decode cL_looks 129 = .ok (.iload_n 2, 1) := by decide +kernel
theorem dL_looks_130 : decode cL_looks 130 = .ok (.iadd, 1) := by decide +kernel
theorem dL_looks_131 : decode cL_looks 131 = .ok (.iaload, 1) := by decide +kernel
theorem dL_looks_132 : decode cL_looks 132 = .ok (.iconst 0, 1) := by decide +kernel
theorem dL_looks_133 : decode cL_looks 133 = .ok (.invokevirtual 128, 3) := by decide +kernel
theorem dL_looks_136 : decode cL_looks 136 = .ok (.iload_n 1, 1) := by decide +kernel
theorem dL_looks_137 : decode cL_looks 137 = .ok (.if_icmp .ne 7, 3) := by decide +kernel
theorem dL_looks_140 : decode cL_looks 140 = .ok (.iconst 1, 1) := by decide +kernel
theorem dL_looks_141 : decode cL_looks 141 = .ok (.goto 4, 3) := by decide +kernel
theorem dL_looks_144 : decode cL_looks 144 = .ok (.iconst 0, 1) := by decide +kernel
theorem dL_looks_145 : decode cL_looks 145 = .ok (.istore 11, 2) := by decide +kernel
theorem dL_looks_147 : decode cL_looks 147 = .ok (.iload 11, 2) := by decide +kernel
theorem dL_looks_149 : decode cL_looks 149 = .ok (.ifCond .eq 44, 3) := by decide +kernel
theorem dL_looks_152 : decode cL_looks 152 = .ok (.iload 9, 2) := by decide +kernel
theorem dL_looks_154 : decode cL_looks 154 = .ok (.ifCond .eq 35, 3) := by decide +kernel
theorem dL_looks_157 : decode cL_looks 157 = .ok (.iload 8, 2) := by decide +kernel
theorem dL_looks_159 : decode cL_looks 159 = .ok (.ifCond .lt 30, 3) := by decide +kernel
theorem dL_looks_162 : decode cL_looks 162 = .ok (.aload_n 0, 1) := by decide +kernel
theorem dL_looks_163 : decode cL_looks 163 = .ok (.iload_n 1, 1) := by decide +kernel
theorem dL_looks_164 : decode cL_looks 164 = .ok (.aload 4, 2) := by decide +kernel
theorem dL_looks_166 : decode cL_looks 166 = .ok (.bipush 20, 2) := by decide +kernel
theorem dL_looks_168 : decode cL_looks 168 = .ok (.iload_n 2, 1) := by decide +kernel
theorem dL_looks_169 : decode cL_looks 169 = .ok (.iadd, 1) := by decide +kernel
theorem dL_looks_170 : decode cL_looks 170 = .ok (.iaload, 1) := by decide +kernel
theorem dL_looks_171 : decode cL_looks 171 = .ok (.iload 9, 2) := by decide +kernel
theorem dL_looks_173 : decode cL_looks 173 = .ok (.invokevirtual 128, 3) := by decide +kernel
theorem dL_looks_176 : decode cL_looks 176 = .ok (.aload_n 3, 1) := by decide +kernel
theorem dL_looks_177 : decode cL_looks 177 = .ok (.aload 4, 2) := by decide +kernel
theorem dL_looks_179 : decode cL_looks 179 = .ok (.aload 5, 2) := by decide +kernel
theorem dL_looks_181 : decode cL_looks 181 = .ok (.invokestatic 51, 3) := by decide +kernel
theorem dL_looks_184 : decode cL_looks 184 = .ok (.iload 10, 2) := by decide +kernel
theorem dL_looks_186 : decode cL_looks 186 = .ok (.if_icmp .ne 7, 3) := by decide +kernel
theorem dL_looks_189 : decode cL_looks 189 = .ok (.iconst 1, 1) := by decide +kernel
theorem dL_looks_190 : decode cL_looks 190 = .ok (.goto 4, 3) := by decide +kernel
theorem dL_looks_193 : decode cL_looks 193 = .ok (.iconst 0, 1) := by decide +kernel
theorem dL_looks_194 : decode cL_looks 194 = .ok (.ireturn, 1) := by decide +kernel
